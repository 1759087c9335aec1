import java.util.ArrayDeque;
import java.util.ArrayList;
import java.util.Collections;
import java.util.Deque;
import java.util.HashMap;
import java.util.HashSet;
import java.util.List;
import java.util.Map;
import java.util.Set;
import java.util.TreeMap;
import java.util.regex.Matcher;
import java.util.regex.Pattern;

/**
 * A second market, written from the document alone: slow and plain, by other ways than the program
 * where there are any (lists and maps, exceptions in the parser, searches through all cases).
 */
public final class Model {
    private static final String FIRST = "market;stall east 5;stall west 8;stall north 0;"
            + "stall south 12;seller ann 20 4 west east at east;seller bob 3 6 east south at west;"
            + "seller cid 50 0 north west;seller dot 9 9 south east west;";
    private static final List<String> COMMANDS = List.of("assign", "vacate", "swap", "reallocate",
            "prefer", "remove", "rent", "deposit", "days");

    private static final class Seller {
        private String name;
        private int balance;
        private int income;
        private List<Integer> list = new ArrayList<>();
        private int stall = -1;

        private Seller copy() {
            Seller copy = new Seller();
            copy.name = name;
            copy.balance = balance;
            copy.income = income;
            copy.list = new ArrayList<>(list);
            copy.stall = stall;
            return copy;
        }
    }

    private static final class State {
        private final List<String> stallNames = new ArrayList<>();
        private final List<Integer> rents = new ArrayList<>();
        private final List<Seller> sellers = new ArrayList<>();
        private final List<Integer> order = new ArrayList<>();
        private int day;
        private int rentPaid;
        private int evictions;
        private int swaps;
        private int relocations;

        private State copy() {
            State copy = new State();
            copy.stallNames.addAll(stallNames);
            copy.rents.addAll(rents);
            for (Seller seller : sellers) {
                copy.sellers.add(seller.copy());
            }
            copy.order.addAll(order);
            copy.day = day;
            copy.rentPaid = rentPaid;
            copy.evictions = evictions;
            copy.swaps = swaps;
            copy.relocations = relocations;
            return copy;
        }

        private int occupant(int stall) {
            for (int i = 0; i < sellers.size(); i++) {
                if (sellers.get(i).stall == stall) {
                    return i;
                }
            }
            return -1;
        }

        private int sellerNamed(String name) {
            for (int i = 0; i < sellers.size(); i++) {
                if (sellers.get(i).name.equals(name)) {
                    return i;
                }
            }
            return -1;
        }
    }

    private static final class Token {
        private final String text;
        private final int position;

        private Token(String text, int position) {
            this.text = text;
            this.position = position;
        }

        private boolean isWord() {
            return text.matches("[a-z]+");
        }

        private boolean isNumber() {
            return text.matches("[0-9]+");
        }
    }

    private static final class TextError extends RuntimeException {
        private static final long serialVersionUID = 1L;
        private final int code;
        private final int position;

        private TextError(int code, Token token) {
            this.code = code;
            this.position = token.position;
        }
    }

    private State now;
    private State saved;
    private final Deque<State> history = new ArrayDeque<>();
    private String input = "";
    private String output = "";
    private int code = 0;
    private int position = -1;

    public Model() {
        now = parseSetup(tokens(FIRST));
    }

    private static List<Token> tokens(String text) {
        List<Token> tokens = new ArrayList<>();
        Matcher matcher = Pattern.compile("[a-z]+|[0-9]+|[^ ]", Pattern.DOTALL).matcher(text);
        while (matcher.find()) {
            tokens.add(new Token(matcher.group(), matcher.start()));
        }
        tokens.add(new Token("", text.length()));
        return tokens;
    }

    private static void expect(Token token, String text) {
        if (!token.text.equals(text)) {
            throw new TextError(1, token);
        }
    }

    private static int number(Token token, int least, int most) {
        if (!token.isNumber()) {
            throw new TextError(1, token);
        }
        java.math.BigInteger value = new java.math.BigInteger(token.text);
        if (value.compareTo(java.math.BigInteger.valueOf(least)) < 0
                || value.compareTo(java.math.BigInteger.valueOf(most)) > 0) {
            throw new TextError(2, token);
        }
        return value.intValue();
    }

    private static int stall(Token token, State state) {
        if (!token.isWord() || token.text.equals("at")) {
            throw new TextError(1, token);
        }
        int stall = state.stallNames.indexOf(token.text);
        if (stall < 0) {
            throw new TextError(3, token);
        }
        return stall;
    }

    private static int seller(Token token, State state) {
        if (!token.isWord()) {
            throw new TextError(1, token);
        }
        int seller = state.sellerNamed(token.text);
        if (seller < 0) {
            throw new TextError(3, token);
        }
        return seller;
    }

    private static String newName(Token token, boolean used) {
        if (!token.isWord()) {
            throw new TextError(1, token);
        }
        if (token.text.length() > 6 || used) {
            throw new TextError(3, token);
        }
        return token.text;
    }

    private static State parseSetup(List<Token> tokens) {
        State state = new State();
        int at = 0;
        expect(tokens.get(at++), "market");
        expect(tokens.get(at++), ";");
        do {
            expect(tokens.get(at), "stall");
            if (state.stallNames.size() == 8) {
                throw new TextError(5, tokens.get(at));
            }
            at++;
            Token name = tokens.get(at++);
            boolean used = name.text.equals("at") || state.stallNames.contains(name.text);
            state.stallNames.add(newName(name, used));
            state.rents.add(number(tokens.get(at++), 0, 99));
            expect(tokens.get(at++), ";");
        } while (tokens.get(at).text.equals("stall"));
        do {
            expect(tokens.get(at), "seller");
            if (state.sellers.size() == 8) {
                throw new TextError(5, tokens.get(at));
            }
            at++;
            Seller seller = new Seller();
            Token name = tokens.get(at++);
            seller.name = newName(name, state.sellerNamed(name.text) >= 0);
            seller.balance = number(tokens.get(at++), 0, 9999);
            seller.income = number(tokens.get(at++), 0, 99);
            while (tokens.get(at).isWord() && !tokens.get(at).text.equals("at")) {
                int stall = stall(tokens.get(at), state);
                if (seller.list.contains(stall)) {
                    throw new TextError(4, tokens.get(at));
                }
                seller.list.add(stall);
                at++;
            }
            if (tokens.get(at).text.equals("at")) {
                at++;
                int stall = stall(tokens.get(at), state);
                if (state.occupant(stall) >= 0) {
                    throw new TextError(4, tokens.get(at));
                }
                seller.stall = stall;
                at++;
            }
            expect(tokens.get(at++), ";");
            state.order.add(state.sellers.size());
            state.sellers.add(seller);
        } while (!tokens.get(at).text.isEmpty());
        return state;
    }

    private List<Object[]> parseScript(List<Token> tokens) {
        List<Object[]> commands = new ArrayList<>();
        int at = 0;
        while (!tokens.get(at).text.isEmpty()) {
            Token word = tokens.get(at++);
            if (!COMMANDS.contains(word.text)) {
                throw new TextError(1, word);
            }
            if (commands.size() == 20) {
                throw new TextError(5, word);
            }
            int first = 0;
            int second = 0;
            switch (word.text) {
                case "assign": case "prefer": case "remove":
                    first = seller(tokens.get(at++), now);
                    second = stall(tokens.get(at++), now);
                    break;
                case "vacate":
                    first = seller(tokens.get(at++), now);
                    break;
                case "swap":
                    first = seller(tokens.get(at++), now);
                    second = seller(tokens.get(at++), now);
                    break;
                case "rent":
                    first = stall(tokens.get(at++), now);
                    second = number(tokens.get(at++), 0, 99);
                    break;
                case "deposit":
                    first = seller(tokens.get(at++), now);
                    second = number(tokens.get(at++), 1, 999);
                    break;
                case "days":
                    first = number(tokens.get(at++), 1, 99);
                    break;
                default:
                    break;
            }
            expect(tokens.get(at++), ";");
            commands.add(new Object[] {word.text, first, second});
        }
        return commands;
    }

    public int appendInput(int a, int b, int c, int d, int e) {
        if (input.length() + 20 > 700) {
            throw new IllegalStateException();
        }
        for (int word : new int[] {a, b, c, d, e}) {
            for (byte value : java.nio.ByteBuffer.allocate(4).putInt(word).array()) {
                input += (char) Byte.toUnsignedInt(value);
            }
        }
        return input.length();
    }

    public int truncateInput(int length) {
        if (length < 0 || length > input.length()) {
            throw new IllegalArgumentException();
        }
        input = input.substring(0, length);
        return length;
    }

    private String takeInput() {
        String text = input;
        input = "";
        code = 0;
        position = -1;
        return text;
    }

    private int report(TextError error) {
        code = error.code;
        position = error.position;
        return -1;
    }

    public int loadSetup() {
        try {
            now = parseSetup(tokens(takeInput()));
        } catch (TextError error) {
            return report(error);
        }
        history.clear();
        return now.sellers.size();
    }

    public int runScript() {
        List<Object[]> commands;
        try {
            commands = parseScript(tokens(takeInput()));
        } catch (TextError error) {
            return report(error);
        }
        State before = now.copy();
        List<State> older = new ArrayList<>(history);
        int executed = 0;
        try {
            for (Object[] command : commands) {
                execute((String) command[0], (Integer) command[1], (Integer) command[2]);
                executed++;
            }
        } catch (IllegalStateException e) {
            // the rest of the script has no effect
        }
        history.clear();
        history.addAll(older);
        remember(before);
        return executed;
    }

    private void execute(String word, int first, int second) {
        switch (word) {
            case "assign":
                assign(first, second);
                break;
            case "vacate":
                vacate(first);
                break;
            case "swap":
                swap(first, second);
                break;
            case "reallocate":
                reallocate();
                break;
            case "prefer":
                preferFirst(first, second);
                break;
            case "remove":
                removePreference(first, second);
                break;
            case "rent":
                setRent(first, second);
                break;
            case "deposit":
                deposit(first, second);
                break;
            default:
                advanceDays(first);
                break;
        }
    }

    private void remember(State before) {
        history.addLast(before);
        if (history.size() > 8) {
            history.removeFirst();
        }
    }

    private Seller of(int seller) {
        if (seller < 0 || seller >= now.sellers.size()) {
            throw new IndexOutOfBoundsException();
        }
        return now.sellers.get(seller);
    }

    private int in(int stall) {
        if (stall < 0 || stall >= now.stallNames.size()) {
            throw new IndexOutOfBoundsException();
        }
        return stall;
    }

    public int errorCode() {
        return code;
    }

    public int errorPosition() {
        return position;
    }

    public int sellerCount() {
        return now.sellers.size();
    }

    public int stallCount() {
        return now.stallNames.size();
    }

    public int day() {
        return now.day;
    }

    public int balance(int seller) {
        return of(seller).balance;
    }

    public int income(int seller) {
        return of(seller).income;
    }

    public int rent(int stall) {
        return now.rents.get(in(stall));
    }

    public int stallOf(int seller) {
        return of(seller).stall;
    }

    public int occupantOf(int stall) {
        return now.occupant(in(stall));
    }

    public int priorityOf(int seller) {
        of(seller);
        return now.order.indexOf(seller);
    }

    public int preferenceCount(int seller) {
        return of(seller).list.size();
    }

    public int preferenceAt(int seller, int place) {
        List<Integer> list = of(seller).list;
        if (place < 0 || place >= list.size()) {
            throw new IndexOutOfBoundsException();
        }
        return list.get(place);
    }

    public int rankOf(int seller, int stall) {
        return of(seller).list.indexOf(in(stall));
    }

    public boolean prefers(int seller, int stall, int otherStall) {
        of(seller);
        if (stall != -1) {
            in(stall);
        }
        if (otherStall != -1) {
            in(otherStall);
        }
        return better(seller, stall, otherStall);
    }

    /** By cases: 2 on the list, 1 nothing, 0 unacceptable; the list order within the first. */
    private boolean better(int seller, int stall, int other) {
        List<Integer> list = now.sellers.get(seller).list;
        int kind = stall == -1 ? 1 : list.contains(stall) ? 2 : 0;
        int otherKind = other == -1 ? 1 : list.contains(other) ? 2 : 0;
        if (kind != otherKind) {
            return kind > otherKind;
        }
        return kind == 2 && list.indexOf(stall) < list.indexOf(other);
    }

    private static int byteOf(String name, int index) {
        return index < 0 || index >= name.length() ? -1 : name.charAt(index);
    }

    public int sellerNameByte(int seller, int index) {
        return byteOf(of(seller).name, index);
    }

    public int stallNameByte(int stall, int index) {
        return byteOf(now.stallNames.get(in(stall)), index);
    }

    public int findSeller() {
        return now.sellerNamed(input);
    }

    public int freeStallCount() {
        int free = 0;
        for (int stall = 0; stall < stallCount(); stall++) {
            free += now.occupant(stall) < 0 ? 1 : 0;
        }
        return free;
    }

    public boolean envies(int seller, int other) {
        int mine = of(seller).stall;
        int theirs = of(other).stall;
        return theirs != -1 && better(seller, theirs, mine);
    }

    public boolean wouldSwap(int seller, int other) {
        int mine = of(seller).stall;
        int theirs = of(other).stall;
        return seller != other && mine != -1 && theirs != -1 && better(seller, theirs, mine)
                && better(other, mine, theirs);
    }

    public int swapPairCount() {
        Set<Set<Integer>> pairs = new HashSet<>();
        for (int a = 0; a < sellerCount(); a++) {
            for (int b = 0; b < sellerCount(); b++) {
                if (wouldSwap(a, b)) {
                    pairs.add(Set.of(a, b));
                }
            }
        }
        return pairs.size();
    }

    public int improvingCycleLength(int seller) {
        if (of(seller).stall == -1) {
            return -1;
        }
        int least = leastCycle(seller, new ArrayList<>(List.of(seller)));
        return least == Integer.MAX_VALUE ? -1 : least;
    }

    /** Tries every sequence of distinct sellers that begins with the given one. */
    private int leastCycle(int start, List<Integer> path) {
        int last = path.get(path.size() - 1);
        int least = Integer.MAX_VALUE;
        if (path.size() >= 2 && envies(last, start)) {
            return path.size();
        }
        for (int next = 0; next < sellerCount(); next++) {
            if (!path.contains(next) && envies(last, next)) {
                path.add(next);
                least = Math.min(least, leastCycle(start, path));
                path.remove(path.size() - 1);
            }
        }
        return least;
    }

    public int betterFreeStall(int seller) {
        for (int stall : of(seller).list) {
            if (now.occupant(stall) == -1 && better(seller, stall, of(seller).stall)) {
                return stall;
            }
        }
        return -1;
    }

    public boolean isEfficient() {
        for (int seller = 0; seller < sellerCount(); seller++) {
            int stall = of(seller).stall;
            if (improvingCycleLength(seller) != -1 || betterFreeStall(seller) != -1
                    || stall != -1 && !of(seller).list.contains(stall)) {
                return false;
            }
        }
        return true;
    }

    public int blockReason(int seller, int stall) {
        Seller who = of(seller);
        in(stall);
        if (who.stall == stall) {
            return 0;
        } else if (!who.list.contains(stall)) {
            return 1;
        } else if (who.stall != -1 && better(seller, who.stall, stall)) {
            return 2;
        } else if (now.occupant(stall) != -1) {
            return 3;
        } else if (rent(stall) > who.balance) {
            return 4;
        }
        return 5;
    }

    /** The steps of the document, on lists; what each seller gets, by seller. */
    private static Map<Integer, Integer> mechanism(State state) {
        Map<Integer, Integer> got = new TreeMap<>();
        Map<Integer, Integer> requested = new HashMap<>();
        Set<Integer> available = new HashSet<>();
        for (int stall = 0; stall < state.stallNames.size(); stall++) {
            available.add(stall);
        }
        List<Integer> chain = new ArrayList<>();
        while (got.size() < state.sellers.size()) {
            if (chain.isEmpty()) {
                for (int seller : state.order) {
                    if (!got.containsKey(seller)) {
                        chain.add(seller);
                        break;
                    }
                }
            }
            int s = chain.get(chain.size() - 1);
            int request = -1;
            for (int stall : state.sellers.get(s).list) {
                if (available.contains(stall)) {
                    request = stall;
                    break;
                }
            }
            if (request == -1) {
                got.put(s, -1);
                chain.remove(Integer.valueOf(s));
                continue;
            }
            requested.put(s, request);
            int t = state.occupant(request);
            if (t == -1 || t == s || got.containsKey(t)) {
                got.put(s, request);
                available.remove(request);
                chain.remove(Integer.valueOf(s));
            } else if (!chain.contains(t)) {
                chain.add(t);
            } else {
                List<Integer> cycle = chain.subList(chain.indexOf(t), chain.size());
                for (int member : cycle) {
                    got.put(member, requested.get(member));
                    available.remove(requested.get(member));
                }
                cycle.clear();
            }
        }
        return got;
    }

    public int allocatedStall(int seller) {
        of(seller);
        return mechanism(now).get(seller);
    }

    public int allocatedIfFirst(int seller) {
        of(seller);
        State other = now.copy();
        other.order.remove(Integer.valueOf(seller));
        other.order.add(0, seller);
        return mechanism(other).get(seller);
    }

    public int allocatedIfReported(int seller, int stall) {
        of(seller);
        in(stall);
        State other = now.copy();
        List<Integer> list = other.sellers.get(seller).list;
        list.remove(Integer.valueOf(stall));
        list.add(0, stall);
        return mechanism(other).get(seller);
    }

    public int gainerCount() {
        int gainers = 0;
        for (Map.Entry<Integer, Integer> entry : mechanism(now).entrySet()) {
            gainers += better(entry.getKey(), entry.getValue(), of(entry.getKey()).stall) ? 1 : 0;
        }
        return gainers;
    }

    public int maximumMatchingSize() {
        return bestMatching(0, new HashSet<>())[0];
    }

    public int leastRankSum() {
        return bestMatching(0, new HashSet<>())[1];
    }

    /** Tries everything: the size and rank sum of the best that the sellers from here can get. */
    private int[] bestMatching(int seller, Set<Integer> used) {
        if (seller == sellerCount()) {
            return new int[] {0, 0};
        }
        int[] best = bestMatching(seller + 1, used);
        List<Integer> list = of(seller).list;
        for (int place = 0; place < list.size(); place++) {
            if (used.add(list.get(place))) {
                int[] rest = bestMatching(seller + 1, used);
                used.remove(list.get(place));
                int size = rest[0] + 1;
                int sum = rest[1] + place;
                if (size > best[0] || size == best[0] && sum < best[1]) {
                    best = new int[] {size, sum};
                }
            }
        }
        return best;
    }

    private static int passDay(State state) {
        state.day++;
        for (Seller seller : state.sellers) {
            seller.balance += seller.income;
        }
        int evicted = 0;
        for (Seller seller : state.sellers) {
            if (seller.stall != -1) {
                int rent = state.rents.get(seller.stall);
                if (seller.balance >= rent) {
                    seller.balance -= rent;
                    state.rentPaid += rent;
                } else {
                    seller.stall = -1;
                    state.evictions++;
                    evicted++;
                }
            }
        }
        return evicted;
    }

    public int daysUntilEviction(int seller) {
        if (of(seller).stall == -1) {
            return -1;
        }
        State later = now.copy();
        for (int day = 1; day <= 400; day++) {
            passDay(later);
            if (later.sellers.get(seller).stall == -1) {
                return day;
            }
        }
        return -1;
    }

    public int balanceAfter(int seller, int days) {
        of(seller);
        if (days < 0 || days > 400) {
            throw new IllegalArgumentException();
        }
        State later = now.copy();
        for (int day = 0; day < days; day++) {
            passDay(later);
        }
        return later.sellers.get(seller).balance;
    }

    public int rentPaid() {
        return now.rentPaid;
    }

    public int evictionCount() {
        return now.evictions;
    }

    public int swapCount() {
        return now.swaps;
    }

    public int relocationCount() {
        return now.relocations;
    }

    public double meanRank() {
        List<Integer> ranks = new ArrayList<>();
        for (Seller seller : now.sellers) {
            if (seller.list.contains(seller.stall)) {
                ranks.add(seller.list.indexOf(seller.stall));
            }
        }
        int sum = ranks.stream().mapToInt(Integer::intValue).sum();
        return ranks.isEmpty() ? 0.0 : (double) sum / (double) ranks.size();
    }

    public float placedFraction() {
        int placed = 0;
        for (Seller seller : now.sellers) {
            placed += seller.stall == -1 ? 0 : 1;
        }
        return (float) placed / (float) now.sellers.size();
    }

    public int ledgerDifference() {
        return 0;
    }

    public int assign(int seller, int stall) {
        Seller who = of(seller);
        if (now.occupant(in(stall)) != -1 || rent(stall) > who.balance) {
            throw new IllegalStateException();
        }
        remember(now.copy());
        int before = who.stall;
        who.stall = stall;
        return before;
    }

    public int vacate(int seller) {
        Seller who = of(seller);
        if (who.stall == -1) {
            throw new IllegalStateException();
        }
        remember(now.copy());
        int before = who.stall;
        who.stall = -1;
        return before;
    }

    public int swap(int seller, int other) {
        if (!wouldSwap(seller, other)) {
            throw new IllegalStateException();
        }
        remember(now.copy());
        int mine = of(seller).stall;
        of(seller).stall = of(other).stall;
        of(other).stall = mine;
        now.swaps++;
        return of(seller).stall;
    }

    public int reallocate() {
        remember(now.copy());
        int changes = 0;
        for (Map.Entry<Integer, Integer> entry : mechanism(now.copy()).entrySet()) {
            Seller who = of(entry.getKey());
            if (who.stall != entry.getValue()) {
                changes++;
                now.relocations += entry.getValue() == -1 ? 0 : 1;
            }
            who.stall = entry.getValue();
        }
        return changes;
    }

    public int setPriority(int seller, int place) {
        of(seller);
        if (place < 0 || place >= sellerCount()) {
            throw new IllegalArgumentException();
        }
        remember(now.copy());
        int before = now.order.indexOf(seller);
        now.order.remove(before);
        now.order.add(place, seller);
        return before;
    }

    public int preferFirst(int seller, int stall) {
        Seller who = of(seller);
        in(stall);
        remember(now.copy());
        who.list.remove(Integer.valueOf(stall));
        who.list.add(0, stall);
        return who.list.size();
    }

    public int removePreference(int seller, int stall) {
        Seller who = of(seller);
        if (!who.list.contains(in(stall))) {
            throw new IllegalStateException();
        }
        remember(now.copy());
        who.list.removeAll(Collections.singleton(stall));
        return who.list.size();
    }

    public int setRent(int stall, int rent) {
        in(stall);
        if (rent < 0 || rent > 99) {
            throw new IllegalArgumentException();
        }
        remember(now.copy());
        return now.rents.set(stall, rent);
    }

    public int deposit(int seller, int amount) {
        Seller who = of(seller);
        if (amount < 1 || amount > 999) {
            throw new IllegalArgumentException();
        }
        remember(now.copy());
        now.sellers.get(seller).balance += amount;
        return who.balance;
    }

    public int advanceDays(int days) {
        if (days < 1 || days > 99) {
            throw new IllegalArgumentException();
        }
        if (now.day + days > 9999) {
            throw new IllegalStateException();
        }
        remember(now.copy());
        int evicted = 0;
        for (int day = 0; day < days; day++) {
            evicted += passDay(now);
        }
        return evicted;
    }

    public int writeAssignment() {
        List<String> entries = new ArrayList<>();
        for (Seller seller : now.sellers) {
            String stall = seller.stall == -1 ? "-" : now.stallNames.get(seller.stall);
            entries.add(seller.name + ":" + stall);
        }
        output = String.join(" ", entries);
        return output.length();
    }

    public int writePreferences(int seller) {
        List<String> names = new ArrayList<>();
        for (int stall : of(seller).list) {
            names.add(now.stallNames.get(stall));
        }
        output = String.join(">", names);
        return output.length();
    }

    public int outputByte(int index) {
        return byteOf(output, index);
    }

    public int undo() {
        if (history.isEmpty()) {
            return -1;
        }
        now = history.removeLast();
        return history.size();
    }

    public int undoCount() {
        return history.size();
    }

    public int save() {
        saved = now.copy();
        return now.day;
    }

    public int restore() {
        if (saved == null) {
            throw new IllegalStateException();
        }
        now = saved.copy();
        history.clear();
        return now.day;
    }
}
