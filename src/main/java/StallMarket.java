/**
 * A market administration that allocates stalls to sellers with the mechanism "you request my
 * house, I get your turn". Every row is made with the object and used again, so that a call makes
 * nothing but the exception that it may throw.
 */
public final class StallMarket {
    /** Stands for no stall, no seller and no position, as the face answers it. */
    private static final int NONE = -1;

    private static final int MAX_SELLERS = 8;
    private static final int MAX_STALLS = 8;
    private static final int LIST_CELLS = MAX_SELLERS * MAX_STALLS;
    private static final int STALL_SETS = 1 << MAX_STALLS;
    private static final int UNDO_SLOTS = 8;
    private static final int MAX_COMMANDS = 20;
    private static final int MAX_TEXT = 700;

    private static final int MAX_RENT = 99;
    private static final int MAX_INCOME = 99;
    private static final int MAX_BALANCE = 9999;
    private static final int MAX_AMOUNT = 999;
    private static final int MAX_DAYS = 99;
    private static final int LAST_DAY = 9999;
    private static final int FORECAST_DAYS = 400;

    private static final int MAX_LETTERS = 6;
    private static final long NO_NAME = 0L;

    private static final int NOT_ALLOWED = 1;
    private static final int OUT_OF_RANGE = 2;
    private static final int BAD_NAME = 3;
    private static final int TAKEN_STALL = 4;
    private static final int TOO_MANY = 5;

    private static final int END = 0;
    private static final int WORD = 1;
    private static final int NUMBER = 2;
    private static final int SEMICOLON = 3;
    private static final int OTHER = 4;

    private static final int NO_OPERAND = 0;
    private static final int SELLER_OPERAND = 1;
    private static final int STALL_OPERAND = 2;
    private static final int RENT_OPERAND = 3;
    private static final int AMOUNT_OPERAND = 4;
    private static final int DAYS_OPERAND = 5;

    private static final String FIRST_SETUP =
            "market;stall east 5;stall west 8;stall north 0;stall south 12;seller ann 20 4 west east at east;seller bob 3 6 east south at west;seller cid 50 0 north west;seller dot 9 9 south east west;";

    private static final Verb[] VERBS = Verb.values();

    private final Parser parser;
    private final ByteText output = new ByteText();
    private final Script script = new Script();
    private final Market market;
    private final Market scratch = new Market();
    private final Market saved = new Market();
    private boolean hasSaved = false;
    private final History history = new History();
    private final Allocation allocation = new Allocation();
    private final Matching matching = new Matching();

    public StallMarket() {
        // Read before they become part of the object: a constructor hands out nothing of its own.
        Parser firstParser = new Parser();
        Market firstMarket = new Market();
        for (int i = 0; i < FIRST_SETUP.length(); i++) {
            firstParser.tokens.text.add(FIRST_SETUP.charAt(i));
        }
        SetupReader.read(firstParser, firstMarket);
        firstParser.tokens.text.cut(0);
        parser = firstParser;
        market = firstMarket;
    }

    public int appendInput(int a, int b, int c, int d, int e) throws IllegalStateException {
        ByteText input = parser.tokens.text;
        if (input.length > MAX_TEXT - 20) {
            throw new IllegalStateException("the input buffer is full");
        }
        input.addWord(a);
        input.addWord(b);
        input.addWord(c);
        input.addWord(d);
        input.addWord(e);
        return input.length;
    }

    public int truncateInput(int length) throws IllegalArgumentException {
        ByteText input = parser.tokens.text;
        if (length < 0 || length > input.length) {
            throw new IllegalArgumentException("not a length up to the current one");
        }
        input.cut(length);
        return input.length;
    }

    public int loadSetup() {
        boolean valid = SetupReader.read(parser, scratch);
        parser.tokens.text.cut(0);
        if (!valid) {
            return NONE;
        }
        Market.copy(scratch, market);
        history.clear();
        return market.sellers;
    }

    public int runScript() {
        boolean valid = script.read(parser, market);
        parser.tokens.text.cut(0);
        if (!valid) {
            return NONE;
        }
        history.record(market);
        return script.execute(market, allocation);
    }

    public int errorCode() {
        return parser.code;
    }

    public int errorPosition() {
        return parser.position;
    }

    public int sellerCount() {
        return market.sellers;
    }

    public int stallCount() {
        return market.stalls;
    }

    public int day() {
        return market.today;
    }

    public int balance(int seller) throws IndexOutOfBoundsException {
        requireSeller(seller);
        return market.coinsOf(seller);
    }

    public int income(int seller) throws IndexOutOfBoundsException {
        requireSeller(seller);
        return market.wageOf(seller);
    }

    public int rent(int stall) throws IndexOutOfBoundsException {
        requireStall(stall);
        return market.priceOf(stall);
    }

    public int stallOf(int seller) throws IndexOutOfBoundsException {
        requireSeller(seller);
        return market.heldBy(seller);
    }

    public int occupantOf(int stall) throws IndexOutOfBoundsException {
        requireStall(stall);
        return market.holderOf(stall);
    }

    public int priorityOf(int seller) throws IndexOutOfBoundsException {
        requireSeller(seller);
        return market.turnOf(seller);
    }

    public int preferenceCount(int seller) throws IndexOutOfBoundsException {
        requireSeller(seller);
        return market.wishesOf(seller);
    }

    public int preferenceAt(int seller, int position) throws IndexOutOfBoundsException {
        requireSeller(seller);
        if (position < 0 || position >= market.wishesOf(seller)) {
            throw new IndexOutOfBoundsException("not a position on the list");
        }
        return market.wish(seller, position);
    }

    public int rankOf(int seller, int stall) throws IndexOutOfBoundsException {
        requireSeller(seller);
        requireStall(stall);
        return market.rankIn(seller, stall);
    }

    public boolean prefers(int seller, int stall, int otherStall) throws IndexOutOfBoundsException {
        requireSeller(seller);
        if (stall != NONE) {
            requireStall(stall);
        }
        if (otherStall != NONE) {
            requireStall(otherStall);
        }
        return market.ranksAbove(seller, stall, otherStall);
    }

    public int sellerNameByte(int seller, int index) throws IndexOutOfBoundsException {
        requireSeller(seller);
        return letterAt(market.nameOfSeller(seller), index);
    }

    public int stallNameByte(int stall, int index) throws IndexOutOfBoundsException {
        requireStall(stall);
        return letterAt(market.nameOfStall(stall), index);
    }

    public int findSeller() {
        Tokens tokens = parser.tokens;
        tokens.rewind();
        boolean wholeBuffer = tokens.start == 0 && tokens.end == tokens.text.length;
        return wholeBuffer ? market.sellerCalled(tokens.name) : NONE;
    }

    public int freeStallCount() {
        return market.stalls - market.housedSellers();
    }

    public boolean envies(int seller, int other) throws IndexOutOfBoundsException {
        requireSeller(seller);
        requireSeller(other);
        return Exchanges.wantsStallOf(market, seller, other);
    }

    public boolean wouldSwap(int seller, int other) throws IndexOutOfBoundsException {
        requireSeller(seller);
        requireSeller(other);
        return Exchanges.bothGain(market, seller, other);
    }

    public int swapPairCount() {
        return Exchanges.gainingPairs(market);
    }

    public int improvingCycleLength(int seller) throws IndexOutOfBoundsException {
        requireSeller(seller);
        return Exchanges.shortestCycle(market, seller);
    }

    public int betterFreeStall(int seller) throws IndexOutOfBoundsException {
        requireSeller(seller);
        return Exchanges.bestFreeStall(market, seller);
    }

    public boolean isEfficient() {
        return !Exchanges.canImprove(market);
    }

    public int blockReason(int seller, int stall) throws IndexOutOfBoundsException {
        requireSeller(seller);
        requireStall(stall);
        int held = market.heldBy(seller);
        if (held == stall) {
            return 0;
        }
        if (market.rankIn(seller, stall) == NONE) {
            return 1;
        }
        if (held != NONE && market.ranksAbove(seller, held, stall)) {
            return 2;
        }
        if (market.holderOf(stall) != NONE) {
            return 3;
        }
        return market.priceOf(stall) > market.coinsOf(seller) ? 4 : 5;
    }

    public int allocatedStall(int seller) throws IndexOutOfBoundsException {
        requireSeller(seller);
        allocation.decide(market);
        return allocation.givenTo(seller);
    }

    public int allocatedIfFirst(int seller) throws IndexOutOfBoundsException {
        requireSeller(seller);
        Market.copy(market, scratch);
        scratch.moveTurn(seller, 0);
        allocation.decide(scratch);
        return allocation.givenTo(seller);
    }

    public int allocatedIfReported(int seller, int stall) throws IndexOutOfBoundsException {
        requireSeller(seller);
        requireStall(stall);
        Market.copy(market, scratch);
        scratch.wishFirst(seller, stall);
        allocation.decide(scratch);
        return allocation.givenTo(seller);
    }

    public int gainerCount() {
        allocation.decide(market);
        int gainers = 0;
        for (int seller = 0; seller < market.sellers; seller++) {
            if (market.ranksAbove(seller, allocation.givenTo(seller), market.heldBy(seller))) {
                gainers++;
            }
        }
        return gainers;
    }

    public int maximumMatchingSize() {
        matching.solve(market);
        return matching.size;
    }

    public int leastRankSum() {
        matching.solve(market);
        return matching.rankSum;
    }

    public int daysUntilEviction(int seller) throws IndexOutOfBoundsException {
        requireSeller(seller);
        int price = market.priceOf(market.heldBy(seller));
        int coins = market.coinsOf(seller);
        for (int day = 1; day <= FORECAST_DAYS; day++) {
            coins += market.wageOf(seller);
            if (coins < price) {
                return day;
            }
            coins -= price;
        }
        return NONE;
    }

    public int balanceAfter(int seller, int days)
            throws IndexOutOfBoundsException, IllegalArgumentException {
        requireSeller(seller);
        if (days < 0 || days > FORECAST_DAYS) {
            throw new IllegalArgumentException("not a number of days from 0 to 400");
        }
        int price = market.priceOf(market.heldBy(seller));
        int coins = market.coinsOf(seller);
        for (int day = 1; day <= days; day++) {
            coins += market.wageOf(seller);
            if (coins < price) {
                price = 0;
            }
            coins -= price;
        }
        return coins;
    }

    public int rentPaid() {
        return market.paidRent;
    }

    public int evictionCount() {
        return market.evictions;
    }

    public int swapCount() {
        return market.swaps;
    }

    public int relocationCount() {
        return market.relocations;
    }

    public double meanRank() {
        int sum = 0;
        int count = 0;
        for (int seller = 0; seller < market.sellers; seller++) {
            int rank = market.rankIn(seller, market.heldBy(seller));
            if (rank != NONE) {
                sum += rank;
                count++;
            }
        }
        return count == 0 ? 0.0 : (double) sum / (double) count;
    }

    public float placedFraction() {
        int sellers = market.sellers;
        return sellers == 0 ? 0.0f : (float) market.housedSellers() / (float) sellers;
    }

    public int ledgerDifference() {
        int sum = 0;
        for (int seller = 0; seller < market.sellers; seller++) {
            sum += market.coinsOf(seller);
        }
        return sum - market.openingSum - market.receipts + market.paidRent;
    }

    public int assign(int seller, int stall)
            throws IndexOutOfBoundsException, IllegalStateException {
        requireSeller(seller);
        requireStall(stall);
        if (!market.mayMoveInto(seller, stall)) {
            throw new IllegalStateException("the stall is occupied or too dear");
        }
        history.record(market);
        int before = market.heldBy(seller);
        market.seat(seller, stall);
        return before;
    }

    public int vacate(int seller) throws IndexOutOfBoundsException, IllegalStateException {
        requireSeller(seller);
        int before = market.heldBy(seller);
        if (before == NONE) {
            throw new IllegalStateException("the seller occupies no stall");
        }
        history.record(market);
        market.seat(seller, NONE);
        return before;
    }

    public int swap(int seller, int other)
            throws IndexOutOfBoundsException, IllegalStateException {
        requireSeller(seller);
        requireSeller(other);
        if (!Exchanges.bothGain(market, seller, other)) {
            throw new IllegalStateException("the two sellers would not swap");
        }
        history.record(market);
        market.exchange(seller, other);
        return market.heldBy(seller);
    }

    public int reallocate() {
        history.record(market);
        allocation.decide(market);
        return allocation.applyTo(market);
    }

    public int setPriority(int seller, int position)
            throws IndexOutOfBoundsException, IllegalArgumentException {
        requireSeller(seller);
        if (position < 0 || position >= market.sellers) {
            throw new IllegalArgumentException("not a position of the priority order");
        }
        history.record(market);
        int before = market.turnOf(seller);
        market.moveTurn(seller, position);
        return before;
    }

    public int preferFirst(int seller, int stall) throws IndexOutOfBoundsException {
        requireSeller(seller);
        requireStall(stall);
        history.record(market);
        market.wishFirst(seller, stall);
        return market.wishesOf(seller);
    }

    public int removePreference(int seller, int stall)
            throws IndexOutOfBoundsException, IllegalStateException {
        requireSeller(seller);
        requireStall(stall);
        if (market.rankIn(seller, stall) == NONE) {
            throw new IllegalStateException("the stall is not on the list");
        }
        history.record(market);
        market.dropWish(seller, stall);
        return market.wishesOf(seller);
    }

    public int setRent(int stall, int rent)
            throws IndexOutOfBoundsException, IllegalArgumentException {
        requireStall(stall);
        if (rent < 0 || rent > MAX_RENT) {
            throw new IllegalArgumentException("not a rent from 0 to 99");
        }
        history.record(market);
        int before = market.priceOf(stall);
        market.price(stall, rent);
        return before;
    }

    public int deposit(int seller, int amount)
            throws IndexOutOfBoundsException, IllegalArgumentException {
        requireSeller(seller);
        if (amount < 1 || amount > MAX_AMOUNT) {
            throw new IllegalArgumentException("not an amount from 1 to 999");
        }
        history.record(market);
        market.receive(seller, amount);
        return market.coinsOf(seller);
    }

    public int advanceDays(int days) throws IllegalArgumentException, IllegalStateException {
        if (days < 1 || days > MAX_DAYS) {
            throw new IllegalArgumentException("not a number of days from 1 to 99");
        }
        if (!market.mayPass(days)) {
            throw new IllegalStateException("the day would exceed 9999");
        }
        history.record(market);
        int before = market.evictions;
        market.pass(days);
        return market.evictions - before;
    }

    public int writeAssignment() {
        output.cut(0);
        for (int seller = 0; seller < market.sellers; seller++) {
            if (seller > 0) {
                output.add(' ');
            }
            output.addName(market.nameOfSeller(seller));
            output.add(':');
            int held = market.heldBy(seller);
            if (held == NONE) {
                output.add('-');
            } else {
                output.addName(market.nameOfStall(held));
            }
        }
        return output.length;
    }

    public int writePreferences(int seller) throws IndexOutOfBoundsException {
        requireSeller(seller);
        output.cut(0);
        for (int position = 0; position < market.wishesOf(seller); position++) {
            if (position > 0) {
                output.add('>');
            }
            output.addName(market.nameOfStall(market.wish(seller, position)));
        }
        return output.length;
    }

    public int outputByte(int index) {
        return output.byteAt(index);
    }

    public int undo() {
        return history.takeBack(market);
    }

    public int undoCount() {
        return history.count;
    }

    public int save() {
        Market.copy(market, saved);
        hasSaved = true;
        return market.today;
    }

    public int restore() throws IllegalStateException {
        if (!hasSaved) {
            throw new IllegalStateException("no copy is saved");
        }
        Market.copy(saved, market);
        history.clear();
        return market.today;
    }

    private void requireSeller(int seller) {
        if (seller < 0 || seller >= market.sellers) {
            throw new IndexOutOfBoundsException("not the index of a seller");
        }
    }

    private void requireStall(int stall) {
        if (stall < 0 || stall >= market.stalls) {
            throw new IndexOutOfBoundsException("not the index of a stall");
        }
    }

    /**
     * A name of 1 to 6 letters is kept as one number, a byte for each letter and the first letter on
     * top: two names are equal if their numbers are, and a market is copied without any text.
     */
    private static int lettersIn(long name) {
        int letters = 0;
        while (letters < MAX_LETTERS && (name >>> (8 * letters)) != 0L) {
            letters++;
        }
        return letters;
    }

    private static int letterAt(long name, int index) {
        int letters = lettersIn(name);
        if (index < 0 || index >= letters) {
            return NONE;
        }
        return (int) (name >>> (8 * (letters - 1 - index))) & 255;
    }

    /** Bytes in a row that is made once: the input buffer and the output text. */
    private static final class ByteText {
        private final int[] bytes = new int[MAX_TEXT];
        private int length = 0;

        int byteAt(int index) {
            return index < 0 || index >= length ? NONE : bytes[index];
        }

        void add(int value) {
            if (length < MAX_TEXT) {
                bytes[length] = value;
                length++;
            }
        }

        void addWord(int word) {
            for (int shift = 24; shift >= 0; shift -= 8) {
                add((word >>> shift) & 255);
            }
        }

        void addName(long name) {
            int letters = lettersIn(name);
            for (int index = 0; index < letters; index++) {
                add(letterAt(name, index));
            }
        }

        void cut(int newLength) {
            if (newLength >= 0 && newLength < length) {
                length = newLength;
            }
        }
    }

    /** The input buffer and the token of it that is looked at. */
    private static final class Tokens {
        /** Beyond every number that the grammar takes; a longer number stays above it. */
        private static final int HUGE = 10000;

        private final ByteText text = new ByteText();
        private int kind = END;
        private int start = 0;
        private int end = 0;
        private int number = 0;
        private long name = NO_NAME;

        void rewind() {
            end = 0;
            next();
        }

        void next() {
            start = end;
            while (start < text.length && text.byteAt(start) == ' ') {
                start++;
            }
            end = start;
            number = 0;
            name = NO_NAME;
            int first = text.byteAt(start);
            if (first == NONE) {
                kind = END;
            } else if (isLetter(first)) {
                readWord();
            } else if (isDigit(first)) {
                readNumber();
            } else {
                kind = first == ';' ? SEMICOLON : OTHER;
                end = start + 1;
            }
        }

        private void readWord() {
            kind = WORD;
            while (end < text.length && isLetter(text.byteAt(end))) {
                name = end - start < MAX_LETTERS ? name << 8 | text.byteAt(end) : NO_NAME;
                end++;
            }
        }

        private void readNumber() {
            kind = NUMBER;
            while (end < text.length && isDigit(text.byteAt(end))) {
                if (number < HUGE) {
                    number = 10 * number + text.byteAt(end) - '0';
                }
                end++;
            }
        }

        boolean isWord(String word) {
            if (kind != WORD || end - start != word.length()) {
                return false;
            }
            for (int i = 0; i < word.length(); i++) {
                if (text.byteAt(start + i) != word.charAt(i)) {
                    return false;
                }
            }
            return true;
        }

        private static boolean isLetter(int value) {
            return value >= 'a' && value <= 'z';
        }

        private static boolean isDigit(int value) {
            return value >= '0' && value <= '9';
        }
    }

    /** What both grammars share: the tokens, and the first error with its position. */
    private static final class Parser {
        private final Tokens tokens = new Tokens();
        private int code = 0;
        private int position = NONE;

        void begin() {
            code = 0;
            position = NONE;
            tokens.rewind();
        }

        boolean fail(int newCode) {
            code = newCode;
            position = tokens.start;
            return false;
        }

        boolean takeWord(String word) {
            if (!tokens.isWord(word)) {
                return fail(NOT_ALLOWED);
            }
            tokens.next();
            return true;
        }

        boolean takeSemicolon() {
            if (tokens.kind != SEMICOLON) {
                return fail(NOT_ALLOWED);
            }
            tokens.next();
            return true;
        }

        int takeNumber(int least, int most) {
            int number = tokens.number;
            if (tokens.kind != NUMBER) {
                fail(NOT_ALLOWED);
                return NONE;
            }
            if (number < least || number > most) {
                fail(OUT_OF_RANGE);
                return NONE;
            }
            tokens.next();
            return number;
        }

        int takeSeller(Market market) {
            if (tokens.kind != WORD) {
                fail(NOT_ALLOWED);
                return NONE;
            }
            int seller = market.sellerCalled(tokens.name);
            if (seller == NONE) {
                fail(BAD_NAME);
                return NONE;
            }
            tokens.next();
            return seller;
        }

        /** The token stays, so that a setup can still report a fault of its own at it. */
        int seeStall(Market market) {
            if (tokens.kind != WORD || tokens.isWord("at")) {
                fail(NOT_ALLOWED);
                return NONE;
            }
            int stall = market.stallCalled(tokens.name);
            if (stall == NONE) {
                fail(BAD_NAME);
            }
            return stall;
        }

        int takeStall(Market market) {
            int stall = seeStall(market);
            if (stall != NONE) {
                tokens.next();
            }
            return stall;
        }
    }

    /** The grammar of a setup; what it reads goes into a draft that is worth nothing on an error. */
    private static final class SetupReader {
        static boolean read(Parser parser, Market draft) {
            draft.clear();
            parser.begin();
            return parser.takeWord("market") && parser.takeSemicolon()
                    && readStalls(parser, draft) && readSellers(parser, draft);
        }

        private static boolean readStalls(Parser parser, Market draft) {
            for (int count = 0; count < MAX_STALLS; count++) {
                if (count > 0 && !parser.tokens.isWord("stall")) {
                    return true;
                }
                if (!readStall(parser, draft)) {
                    return false;
                }
            }
            return !parser.tokens.isWord("stall") || parser.fail(TOO_MANY);
        }

        private static boolean readStall(Parser parser, Market draft) {
            if (!parser.takeWord("stall")) {
                return false;
            }
            long name = parser.tokens.name;
            boolean taken = parser.tokens.isWord("at") || draft.stallCalled(name) != NONE;
            if (!takeNewName(parser, taken)) {
                return false;
            }
            int rent = parser.takeNumber(0, MAX_RENT);
            if (rent == NONE) {
                return false;
            }
            draft.addStall(name, rent);
            return parser.takeSemicolon();
        }

        private static boolean takeNewName(Parser parser, boolean taken) {
            if (parser.tokens.kind != WORD) {
                return parser.fail(NOT_ALLOWED);
            }
            if (taken || parser.tokens.name == NO_NAME) {
                return parser.fail(BAD_NAME);
            }
            parser.tokens.next();
            return true;
        }

        private static boolean readSellers(Parser parser, Market draft) {
            for (int count = 0; count < MAX_SELLERS; count++) {
                if (count > 0 && parser.tokens.kind == END) {
                    return true;
                }
                if (!readSeller(parser, draft)) {
                    return false;
                }
            }
            if (parser.tokens.kind == END) {
                return true;
            }
            return parser.fail(parser.tokens.isWord("seller") ? TOO_MANY : NOT_ALLOWED);
        }

        private static boolean readSeller(Parser parser, Market draft) {
            if (!parser.takeWord("seller")) {
                return false;
            }
            long name = parser.tokens.name;
            if (!takeNewName(parser, draft.sellerCalled(name) != NONE)) {
                return false;
            }
            int balance = parser.takeNumber(0, MAX_BALANCE);
            if (balance == NONE) {
                return false;
            }
            int income = parser.takeNumber(0, MAX_INCOME);
            if (income == NONE) {
                return false;
            }
            int seller = draft.sellers;
            draft.addSeller(name, balance, income);
            return readWishes(parser, draft, seller) && readPlace(parser, draft, seller)
                    && parser.takeSemicolon();
        }

        private static boolean readWishes(Parser parser, Market draft, int seller) {
            // One more than the list can hold: the last one is then known to stand on it already.
            for (int count = 0; count <= MAX_STALLS; count++) {
                if (parser.tokens.kind != WORD || parser.tokens.isWord("at")) {
                    return true;
                }
                int stall = parser.seeStall(draft);
                if (stall == NONE) {
                    return false;
                }
                if (draft.rankIn(seller, stall) != NONE) {
                    return parser.fail(TAKEN_STALL);
                }
                draft.wishLast(seller, stall);
                parser.tokens.next();
            }
            return true;
        }

        private static boolean readPlace(Parser parser, Market draft, int seller) {
            if (!parser.tokens.isWord("at")) {
                return true;
            }
            parser.tokens.next();
            int stall = parser.seeStall(draft);
            if (stall == NONE) {
                return false;
            }
            if (draft.holderOf(stall) != NONE) {
                return parser.fail(TAKEN_STALL);
            }
            draft.seat(seller, stall);
            parser.tokens.next();
            return true;
        }
    }

    /** The commands of a script, each with the kinds of what follows its word. */
    private enum Verb {
        ASSIGN("assign", SELLER_OPERAND, STALL_OPERAND),
        VACATE("vacate", SELLER_OPERAND, NO_OPERAND),
        SWAP("swap", SELLER_OPERAND, SELLER_OPERAND),
        REALLOCATE("reallocate", NO_OPERAND, NO_OPERAND),
        PREFER("prefer", SELLER_OPERAND, STALL_OPERAND),
        REMOVE("remove", SELLER_OPERAND, STALL_OPERAND),
        RENT("rent", STALL_OPERAND, RENT_OPERAND),
        DEPOSIT("deposit", SELLER_OPERAND, AMOUNT_OPERAND),
        DAYS("days", DAYS_OPERAND, NO_OPERAND);

        private final String word;
        private final int firstKind;
        private final int secondKind;

        Verb(String word, int firstKind, int secondKind) {
            this.word = word;
            this.firstKind = firstKind;
            this.secondKind = secondKind;
        }
    }

    /** A script that is read whole before its first command is executed. */
    private static final class Script {
        private final Verb[] verbs = new Verb[MAX_COMMANDS];
        private final int[] firsts = new int[MAX_COMMANDS];
        private final int[] seconds = new int[MAX_COMMANDS];
        private int count = 0;

        boolean read(Parser parser, Market market) {
            count = 0;
            parser.begin();
            while (count < MAX_COMMANDS && parser.tokens.kind != END) {
                if (!readCommand(parser, market)) {
                    return false;
                }
                count++;
            }
            if (parser.tokens.kind == END) {
                return true;
            }
            return parser.fail(verbAt(parser.tokens) == null ? NOT_ALLOWED : TOO_MANY);
        }

        private boolean readCommand(Parser parser, Market market) {
            Verb verb = verbAt(parser.tokens);
            if (verb == null || count >= MAX_COMMANDS) {
                return parser.fail(NOT_ALLOWED);
            }
            parser.tokens.next();
            int first = takeOperand(parser, market, verb.firstKind);
            if (first == NONE) {
                return false;
            }
            int second = takeOperand(parser, market, verb.secondKind);
            if (second == NONE) {
                return false;
            }
            verbs[count] = verb;
            firsts[count] = first;
            seconds[count] = second;
            return parser.takeSemicolon();
        }

        private static Verb verbAt(Tokens tokens) {
            for (int i = 0; i < VERBS.length; i++) {
                Verb verb = VERBS[i];
                if (verb != null && tokens.isWord(verb.word)) {
                    return verb;
                }
            }
            return null;
        }

        private static int takeOperand(Parser parser, Market market, int kind) {
            switch (kind) {
                case SELLER_OPERAND:
                    return parser.takeSeller(market);
                case STALL_OPERAND:
                    return parser.takeStall(market);
                case RENT_OPERAND:
                    return parser.takeNumber(0, MAX_RENT);
                case AMOUNT_OPERAND:
                    return parser.takeNumber(1, MAX_AMOUNT);
                case DAYS_OPERAND:
                    return parser.takeNumber(1, MAX_DAYS);
                default:
                    return 0;
            }
        }

        int execute(Market market, Allocation allocation) {
            for (int i = 0; i < count && i < MAX_COMMANDS; i++) {
                Verb verb = verbs[i];
                if (verb == null || !isPossible(market, verb, firsts[i], seconds[i])) {
                    return i;
                }
                perform(market, allocation, verb, firsts[i], seconds[i]);
            }
            return count;
        }

        private static boolean isPossible(Market market, Verb verb, int first, int second) {
            switch (verb) {
                case ASSIGN:
                    return market.mayMoveInto(first, second);
                case VACATE:
                    return market.heldBy(first) != NONE;
                case SWAP:
                    return Exchanges.bothGain(market, first, second);
                case REMOVE:
                    return market.rankIn(first, second) != NONE;
                case DAYS:
                    return market.mayPass(first);
                default:
                    return true;
            }
        }

        private static void perform(Market market, Allocation allocation, Verb verb,
                int first, int second) {
            switch (verb) {
                case ASSIGN:
                    market.seat(first, second);
                    break;
                case VACATE:
                    market.seat(first, NONE);
                    break;
                case SWAP:
                    market.exchange(first, second);
                    break;
                case REALLOCATE:
                    allocation.decide(market);
                    allocation.applyTo(market);
                    break;
                case PREFER:
                    market.wishFirst(first, second);
                    break;
                case REMOVE:
                    market.dropWish(first, second);
                    break;
                case RENT:
                    market.price(first, second);
                    break;
                case DEPOSIT:
                    market.receive(first, second);
                    break;
                default:
                    market.pass(first);
                    break;
            }
        }
    }

    /**
     * All that undo and restore bring back. Who occupies a stall is kept with the sellers alone, so
     * that the two sides can't differ. Readers answer NONE or 0 for an index that is none.
     */
    private static final class Market {
        private int sellers = 0;
        private int stalls = 0;
        private int today = 0;
        private int paidRent = 0;
        private int evictions = 0;
        private int swaps = 0;
        private int relocations = 0;
        private int openingSum = 0;
        private int receipts = 0;
        private final long[] sellerNames = new long[MAX_SELLERS];
        private final int[] coins = new int[MAX_SELLERS];
        private final int[] wages = new int[MAX_SELLERS];
        private final int[] held = new int[MAX_SELLERS];
        private final int[] turns = new int[MAX_SELLERS];
        private final int[] wishCounts = new int[MAX_SELLERS];
        private final int[] wishes = new int[LIST_CELLS];
        private final long[] stallNames = new long[MAX_STALLS];
        private final int[] prices = new int[MAX_STALLS];

        static void copy(Market from, Market to) {
            if (from == null || to == null) {
                return;
            }
            to.sellers = from.sellers;
            to.stalls = from.stalls;
            to.today = from.today;
            to.paidRent = from.paidRent;
            to.evictions = from.evictions;
            to.swaps = from.swaps;
            to.relocations = from.relocations;
            to.openingSum = from.openingSum;
            to.receipts = from.receipts;
            for (int i = 0; i < MAX_SELLERS; i++) {
                to.sellerNames[i] = from.sellerNames[i];
                to.coins[i] = from.coins[i];
                to.wages[i] = from.wages[i];
                to.held[i] = from.held[i];
                to.turns[i] = from.turns[i];
                to.wishCounts[i] = from.wishCounts[i];
            }
            for (int i = 0; i < LIST_CELLS; i++) {
                to.wishes[i] = from.wishes[i];
            }
            for (int i = 0; i < MAX_STALLS; i++) {
                to.stallNames[i] = from.stallNames[i];
                to.prices[i] = from.prices[i];
            }
        }

        void clear() {
            sellers = 0;
            stalls = 0;
            today = 0;
            paidRent = 0;
            evictions = 0;
            swaps = 0;
            relocations = 0;
            openingSum = 0;
            receipts = 0;
        }

        void addStall(long name, int newPrice) {
            if (stalls < MAX_STALLS) {
                stallNames[stalls] = name;
                prices[stalls] = newPrice;
                stalls++;
            }
        }

        void addSeller(long name, int newCoins, int wage) {
            if (sellers < MAX_SELLERS) {
                sellerNames[sellers] = name;
                coins[sellers] = newCoins;
                wages[sellers] = wage;
                held[sellers] = NONE;
                turns[sellers] = sellers;
                wishCounts[sellers] = 0;
                openingSum += newCoins;
                sellers++;
            }
        }

        private boolean hasSeller(int seller) {
            return seller >= 0 && seller < sellers;
        }

        private boolean hasStall(int stall) {
            return stall >= 0 && stall < stalls;
        }

        int coinsOf(int seller) {
            return hasSeller(seller) ? coins[seller] : 0;
        }

        int wageOf(int seller) {
            return hasSeller(seller) ? wages[seller] : 0;
        }

        int heldBy(int seller) {
            return hasSeller(seller) ? held[seller] : NONE;
        }

        int turnOf(int seller) {
            return hasSeller(seller) ? turns[seller] : NONE;
        }

        int wishesOf(int seller) {
            return hasSeller(seller) ? wishCounts[seller] : 0;
        }

        int priceOf(int stall) {
            return hasStall(stall) ? prices[stall] : 0;
        }

        long nameOfSeller(int seller) {
            return hasSeller(seller) ? sellerNames[seller] : NO_NAME;
        }

        long nameOfStall(int stall) {
            return hasStall(stall) ? stallNames[stall] : NO_NAME;
        }

        int sellerCalled(long name) {
            for (int seller = 0; seller < sellers; seller++) {
                if (sellerNames[seller] == name) {
                    return seller;
                }
            }
            return NONE;
        }

        int stallCalled(long name) {
            for (int stall = 0; stall < stalls; stall++) {
                if (stallNames[stall] == name) {
                    return stall;
                }
            }
            return NONE;
        }

        int holderOf(int stall) {
            if (stall == NONE) {
                return NONE;
            }
            for (int seller = 0; seller < sellers; seller++) {
                if (held[seller] == stall) {
                    return seller;
                }
            }
            return NONE;
        }

        int housedSellers() {
            int housed = 0;
            for (int seller = 0; seller < sellers; seller++) {
                if (held[seller] != NONE) {
                    housed++;
                }
            }
            return housed;
        }

        int wish(int seller, int position) {
            if (!hasSeller(seller) || position < 0 || position >= wishCounts[seller]) {
                return NONE;
            }
            return wishes[seller * MAX_STALLS + position];
        }

        int rankIn(int seller, int stall) {
            if (seller < 0 || seller >= sellers) {
                return NONE;
            }
            for (int position = 0; position < wishCounts[seller]; position++) {
                if (wishes[seller * MAX_STALLS + position] == stall) {
                    return position;
                }
            }
            return NONE;
        }

        boolean ranksAbove(int seller, int stall, int other) {
            return standing(seller, stall) < standing(seller, other);
        }

        /** No stall stands behind every list, and all unacceptable stalls together behind that. */
        private int standing(int seller, int stall) {
            if (stall == NONE) {
                return MAX_STALLS;
            }
            int rank = rankIn(seller, stall);
            return rank == NONE ? MAX_STALLS + 1 : rank;
        }

        boolean mayMoveInto(int seller, int stall) {
            return holderOf(stall) == NONE && priceOf(stall) <= coinsOf(seller);
        }

        void seat(int seller, int stall) {
            if (hasSeller(seller)) {
                held[seller] = stall;
            }
        }

        void exchange(int seller, int other) {
            int given = heldBy(seller);
            seat(seller, heldBy(other));
            seat(other, given);
            swaps++;
        }

        void moveTurn(int seller, int turn) {
            int before = turnOf(seller);
            for (int i = 0; i < sellers; i++) {
                if (turns[i] > before && turns[i] <= turn) {
                    turns[i]--;
                } else if (turns[i] < before && turns[i] >= turn) {
                    turns[i]++;
                }
            }
            if (hasSeller(seller)) {
                turns[seller] = turn;
            }
        }

        void wishLast(int seller, int stall) {
            int count = wishesOf(seller);
            if (hasSeller(seller) && count < MAX_STALLS) {
                wishes[seller * MAX_STALLS + count] = stall;
                wishCounts[seller] = count + 1;
            }
        }

        void dropWish(int seller, int stall) {
            int rank = rankIn(seller, stall);
            if (!hasSeller(seller) || rank == NONE) {
                return;
            }
            int last = wishCounts[seller] - 1;
            for (int position = rank; position < last; position++) {
                int cell = seller * MAX_STALLS + position;
                wishes[cell] = wishes[cell + 1];
            }
            wishCounts[seller] = last;
        }

        void wishFirst(int seller, int stall) {
            dropWish(seller, stall);
            int count = wishesOf(seller);
            if (!hasSeller(seller) || count >= MAX_STALLS) {
                return;
            }
            for (int position = count; position > 0; position--) {
                int cell = seller * MAX_STALLS + position;
                wishes[cell] = wishes[cell - 1];
            }
            wishes[seller * MAX_STALLS] = stall;
            wishCounts[seller] = count + 1;
        }

        void price(int stall, int newPrice) {
            if (hasStall(stall)) {
                prices[stall] = newPrice;
            }
        }

        void receive(int seller, int amount) {
            if (hasSeller(seller)) {
                coins[seller] += amount;
                receipts += amount;
            }
        }

        boolean mayPass(int days) {
            return days <= LAST_DAY - today;
        }

        void pass(int days) {
            for (int i = 0; i < days; i++) {
                today++;
                for (int seller = 0; seller < sellers; seller++) {
                    receive(seller, wages[seller]);
                }
                for (int seller = 0; seller < sellers; seller++) {
                    chargeOrEvict(seller);
                }
            }
        }

        private void chargeOrEvict(int seller) {
            int stall = heldBy(seller);
            if (!hasSeller(seller) || stall == NONE) {
                return;
            }
            int price = priceOf(stall);
            if (coins[seller] >= price) {
                coins[seller] -= price;
                paidRent += price;
            } else {
                held[seller] = NONE;
                evictions++;
            }
        }
    }

    /** What the sellers of a market would gain by stalls of others or by free ones. */
    private static final class Exchanges {
        static boolean wantsStallOf(Market market, int seller, int other) {
            int wanted = market.heldBy(other);
            return wanted != NONE && market.ranksAbove(seller, wanted, market.heldBy(seller));
        }

        static boolean bothGain(Market market, int seller, int other) {
            return market.heldBy(seller) != NONE
                    && wantsStallOf(market, seller, other) && wantsStallOf(market, other, seller);
        }

        static int gainingPairs(Market market) {
            int pairs = 0;
            for (int seller = 0; seller < market.sellers; seller++) {
                for (int other = 0; other < seller; other++) {
                    if (bothGain(market, seller, other)) {
                        pairs++;
                    }
                }
            }
            return pairs;
        }

        /** The shortest way back to a seller never meets another seller twice, so sets suffice. */
        static int shortestCycle(Market market, int seller) {
            if (market.heldBy(seller) == NONE) {
                return NONE;
            }
            int reached = 1 << seller;
            for (int length = 1; length <= market.sellers; length++) {
                reached = wantedByAny(market, reached);
                if ((reached & 1 << seller) != 0) {
                    return length;
                }
            }
            return NONE;
        }

        /** Leaves out those without a stall: they can't hand one on along a cycle. */
        private static int wantedByAny(Market market, int sellerSet) {
            int wanted = 0;
            for (int seller = 0; seller < market.sellers; seller++) {
                for (int other = 0; other < market.sellers; other++) {
                    if ((sellerSet & 1 << seller) != 0 && wantsStallOf(market, seller, other)) {
                        wanted |= 1 << other;
                    }
                }
            }
            return wanted;
        }

        static int bestFreeStall(Market market, int seller) {
            int held = market.heldBy(seller);
            for (int position = 0; position < market.wishesOf(seller); position++) {
                int stall = market.wish(seller, position);
                if (stall == held) {
                    return NONE;
                }
                if (market.holderOf(stall) == NONE) {
                    return stall;
                }
            }
            return NONE;
        }

        static boolean canImprove(Market market) {
            for (int seller = 0; seller < market.sellers; seller++) {
                boolean unhappy = market.ranksAbove(seller, NONE, market.heldBy(seller));
                if (unhappy || bestFreeStall(market, seller) != NONE
                        || shortestCycle(market, seller) != NONE) {
                    return true;
                }
            }
            return false;
        }
    }

    /** The reallocation mechanism. It only decides; applyTo changes the market. */
    private static final class Allocation {
        /** Each step appends a seller to the chain or finishes one, and each seller once. */
        private static final int MAX_STEPS = 2 * MAX_SELLERS;

        private final int[] requests = new int[MAX_SELLERS];
        private final boolean[] finished = new boolean[MAX_SELLERS];
        private final boolean[] given = new boolean[MAX_STALLS];
        private final int[] chain = new int[MAX_SELLERS];
        private int chained = 0;

        void decide(Market market) {
            chained = 0;
            for (int seller = 0; seller < MAX_SELLERS; seller++) {
                requests[seller] = NONE;
                finished[seller] = false;
            }
            for (int stall = 0; stall < MAX_STALLS; stall++) {
                given[stall] = false;
            }
            for (int step = 0; step < MAX_STEPS; step++) {
                if (chained == 0) {
                    append(nextInTurn(market));
                }
                if (chained > 0) {
                    serve(market, chain[chained - 1]);
                }
            }
        }

        private int nextInTurn(Market market) {
            int next = NONE;
            for (int seller = 0; seller < market.sellers; seller++) {
                if (!finished[seller]
                        && (next == NONE || market.turnOf(seller) < market.turnOf(next))) {
                    next = seller;
                }
            }
            return next;
        }

        private void append(int seller) {
            if (seller != NONE && chained < MAX_SELLERS) {
                chain[chained] = seller;
                chained++;
            }
        }

        private void serve(Market market, int seller) {
            int stall = firstAvailable(market, seller);
            requests[seller] = stall;
            int holder = market.holderOf(stall);
            if (holder == NONE || holder == seller || finished[holder]) {
                finishFrom(chained - 1);
                return;
            }
            int place = placeInChain(holder);
            if (place == NONE) {
                append(holder);
            } else {
                finishFrom(place);
            }
        }

        private int firstAvailable(Market market, int seller) {
            for (int position = 0; position < market.wishesOf(seller); position++) {
                int stall = market.wish(seller, position);
                if (stall != NONE && !given[stall]) {
                    return stall;
                }
            }
            return NONE;
        }

        private int placeInChain(int seller) {
            for (int place = 0; place < chained; place++) {
                if (chain[place] == seller) {
                    return place;
                }
            }
            return NONE;
        }

        private void finishFrom(int place) {
            for (int i = place; i >= 0 && i < chained; i++) {
                int seller = chain[i];
                finished[seller] = true;
                int stall = requests[seller];
                if (stall != NONE) {
                    given[stall] = true;
                }
            }
            chained = place;
        }

        /** A finished seller requests no more, so its last request is what it got. */
        int givenTo(int seller) {
            return seller < 0 || seller >= MAX_SELLERS ? NONE : requests[seller];
        }

        int applyTo(Market market) {
            int changes = 0;
            for (int seller = 0; seller < market.sellers; seller++) {
                int stall = givenTo(seller);
                if (stall != market.heldBy(seller)) {
                    changes++;
                    if (stall != NONE) {
                        market.relocations++;
                    }
                }
            }
            for (int seller = 0; seller < market.sellers; seller++) {
                market.seat(seller, givenTo(seller));
            }
            return changes;
        }
    }

    /**
     * The largest assignment by lists and the least rank sum of one. For each set of stalls it keeps
     * the least sum with which the sellers looked at so far can hold just these stalls.
     */
    private static final class Matching {
        private final int[] leastSums = new int[STALL_SETS];
        private int size = 0;
        private int rankSum = 0;

        void solve(Market market) {
            for (int set = 1; set < STALL_SETS; set++) {
                leastSums[set] = NONE;
            }
            leastSums[0] = 0;
            for (int seller = 0; seller < market.sellers; seller++) {
                include(market, seller);
            }
            size = 0;
            rankSum = 0;
            for (int set = 1; set < STALL_SETS; set++) {
                consider(Integer.bitCount(set), leastSums[set]);
            }
        }

        /** From large sets to small ones: a smaller set then does not hold the seller yet. */
        private void include(Market market, int seller) {
            for (int set = STALL_SETS - 1; set > 0; set--) {
                for (int position = 0; position < market.wishesOf(seller); position++) {
                    int bit = 1 << market.wish(seller, position);
                    int before = (set & bit) != 0 ? leastSums[set & ~bit] : NONE;
                    if (before != NONE
                            && (leastSums[set] == NONE || before + position < leastSums[set])) {
                        leastSums[set] = before + position;
                    }
                }
            }
        }

        private void consider(int newSize, int sum) {
            if (sum != NONE && (newSize > size || newSize == size && sum < rankSum)) {
                size = newSize;
                rankSum = sum;
            }
        }
    }

    /** Copies of the market before the last operations, the oldest one first in the ring. */
    private static final class History {
        private final Market[] slots = new Market[UNDO_SLOTS];
        private int oldest = 0;
        private int count = 0;

        History() {
            for (int i = 0; i < UNDO_SLOTS; i++) {
                slots[i] = new Market();
            }
        }

        void clear() {
            oldest = 0;
            count = 0;
        }

        void record(Market market) {
            Market.copy(market, slots[slotAfter(count)]);
            if (count < UNDO_SLOTS) {
                count++;
            } else {
                oldest = slotAfter(1);
            }
        }

        int takeBack(Market market) {
            if (count == 0) {
                return NONE;
            }
            count--;
            Market.copy(slots[slotAfter(count)], market);
            return count;
        }

        private int slotAfter(int steps) {
            return (oldest + steps) % UNDO_SLOTS;
        }
    }
}
