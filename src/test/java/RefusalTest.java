/**
 * Each refused call: its exception, the one that is listed first where several apply, and that it
 * changes nothing, neither what can be seen nor the input, the undo steps and the saved copy.
 */
public final class RefusalTest {
    private static final Class<?> INDEX = IndexOutOfBoundsException.class;
    private static final Class<?> ARGUMENT = IllegalArgumentException.class;
    private static final Class<?> STATE = IllegalStateException.class;

    private static final int[] FAR = {Integer.MIN_VALUE, Integer.MIN_VALUE + 1, -65536, -256, -9, -8,
        256, 65536, Integer.MAX_VALUE - 1, Integer.MAX_VALUE};

    private interface Act {
        void on(StallMarket x);
    }

    private interface Indexed {
        void on(StallMarket x, int index);
    }

    public static void main(String[] args) {
        refusalsOfStates();
        refusalsOfRanges();
        textsWithAnError();
        questionsChangeNothing();
        theFirstListedException();
        theInputBuffer();
        theLastDay();
        nothingSaved();
        sellerIndices();
        stallIndices();
        outcomes();
        positionsOnALists();
        indicesOfAnEarlierMarket();
        Check.finish("RefusalTest");
    }

    /** Ann holds west, bob east and cid north; dot holds none, and south is too dear for dot. */
    private static StallMarket prepared() {
        StallMarket x = new StallMarket();
        x.swap(0, 1);
        x.reallocate();
        x.advanceDays(4);
        x.save();
        x.setRent(2, 1);
        x.deposit(0, 5);
        x.preferFirst(3, 2);
        x.setPriority(3, 0);
        x.setPriority(0, 3);
        x.setRent(2, 0);
        Check.run(x, "vacate nobody;");
        x.writePreferences(3);
        Check.put(x, "deposit dot 5;");
        return x;
    }

    private static Object thrown(StallMarket x, Act act) {
        try {
            act.on(x);
            return "nothing";
        } catch (RuntimeException e) {
            return e.getClass();
        }
    }

    private static void refused(String what, Class<?> kind, Act act) {
        StallMarket x = prepared();
        Check.equal(what + " throws", kind, thrown(x, act));
        expectAlike(what, prepared(), x);
    }

    /** Compares with a market that was made in the same way, but for the refused call. */
    private static void expectAlike(String what, StallMarket want, StallMarket got) {
        Check.equal(what + ": the state", Check.stateOf(want), Check.stateOf(got));
        int left = want.undoCount();
        while (left >= 0) {
            left = want.undo();
            Check.equal(what + ": undo", left, got.undo());
            Check.equal(what + ": the market undone", Check.marketOf(want), Check.marketOf(got));
        }
        Check.equal(what + ": the input as a script", want.runScript(), got.runScript());
        Check.equal(what + ": the market of it", Check.marketOf(want), Check.marketOf(got));
        Check.equal(what + ": restore", thrown(want, StallMarket::restore),
                thrown(got, StallMarket::restore));
        Check.equal(what + ": the saved market", Check.marketOf(want), Check.marketOf(got));
    }

    private static void refusalsOfStates() {
        StallMarket x = prepared();
        Check.equal("the prepared places", "102-", Check.places(x));
        Check.equal("the prepared balances", "9 7 50 9", Check.balances(x));
        Check.equal("the prepared statistics", "88 1 1 2", Check.statistics(x));
        Check.equal("the prepared undo steps", 8, x.undoCount());
        refused("assign: not free", STATE, y -> y.assign(3, 0));
        refused("assign: its own stall", STATE, y -> y.assign(0, 1));
        refused("assign: too dear", STATE, y -> y.assign(3, 3));
        refused("assign: not free and too dear", STATE, y -> y.assign(1, 1));
        refused("vacate: occupies none", STATE, y -> y.vacate(3));
        refused("swap: nobody gains", STATE, y -> y.swap(0, 1));
        refused("swap: with itself", STATE, y -> y.swap(0, 0));
        refused("swap: with itself, without a stall", STATE, y -> y.swap(3, 3));
        refused("swap: the first occupies none", STATE, y -> y.swap(3, 0));
        refused("swap: the second occupies none", STATE, y -> y.swap(0, 3));
        refused("removePreference: not on the list", STATE, y -> y.removePreference(0, 3));
        refused("removePreference: the occupied stall is not on it", STATE,
                y -> y.removePreference(1, 1));
    }

    private static void refusalsOfRanges() {
        outOfRange("setPriority", 0, 3, (x, i) -> x.setPriority(1, i));
        outOfRange("setRent", 0, 99, (x, i) -> x.setRent(1, i));
        outOfRange("deposit", 1, 999, (x, i) -> x.deposit(1, i));
        outOfRange("advanceDays", 1, 99, (x, i) -> x.advanceDays(i));
        outOfRange("balanceAfter", 0, 400, (x, i) -> x.balanceAfter(1, i));
        outOfRange("truncateInput", 0, 14, (x, i) -> x.truncateInput(i));
    }

    private static void outOfRange(String what, int least, int most, Indexed act) {
        refused(what + " below", ARGUMENT, x -> act.on(x, least - 1));
        refused(what + " above", ARGUMENT, x -> act.on(x, most + 1));
        for (int far : FAR) {
            if (far < least || far > most) {
                refused(what + " " + far, ARGUMENT, x -> act.on(x, far));
            }
        }
        Check.equal(what + " least", "nothing", thrown(prepared(), x -> act.on(x, least)));
        Check.equal(what + " most", "nothing", thrown(prepared(), x -> act.on(x, most)));
    }

    /** Only the buffer and the reported error change; both are made as before to compare the rest. */
    private static void textsWithAnError() {
        String setup = "market;stall a 9;stall b 8;seller s 7 6 b a at a;seller t 5 4 a;";
        for (int kind = 0; kind < 2; kind++) {
            String valid = kind == 0 ? setup : "days 9;rent west 0;vacate ann;reallocate;swap ann bob;";
            for (int end = 1; end <= valid.length(); end++) {
                StallMarket x = prepared();
                Check.put(x, valid.substring(0, end) + "?");
                Check.equal("a text with an error", -1, kind == 0 ? x.loadSetup() : x.runScript());
                Check.equal("its buffer", 20, x.appendInput(0, 0, 0, 0, 0));
                Check.run(x, "vacate nobody;");
                Check.put(x, "deposit dot 5;");
                expectAlike("a text with an error at " + end, prepared(), x);
            }
        }
    }

    private static void questionsChangeNothing() {
        StallMarket x = prepared();
        for (int seller = 0; seller < 4; seller++) {
            Check.list(x, seller);
            Check.sellerName(x, seller);
            x.improvingCycleLength(seller);
            x.betterFreeStall(seller);
            x.allocatedStall(seller);
            x.allocatedIfFirst(seller);
            x.daysUntilEviction(seller);
            x.balanceAfter(seller, 400);
            for (int other = 0; other < 4; other++) {
                x.envies(seller, other);
                x.wouldSwap(seller, other);
                x.rankOf(seller, other);
                x.prefers(seller, other, -1);
                x.blockReason(seller, other);
                x.allocatedIfReported(seller, other);
            }
        }
        x.findSeller();
        x.freeStallCount();
        x.swapPairCount();
        x.isEfficient();
        x.gainerCount();
        x.maximumMatchingSize();
        x.leastRankSum();
        x.meanRank();
        x.placedFraction();
        expectAlike("questions", prepared(), x);
    }

    private static void theFirstListedException() {
        for (int bad : new int[] {-1, 4}) {
            refused("balanceAfter: seller before days, below", INDEX, x -> x.balanceAfter(bad, -1));
            refused("balanceAfter: seller before days, above", INDEX, x -> x.balanceAfter(bad, 401));
            refused("setPriority: seller before position", INDEX, x -> x.setPriority(bad, -1));
            refused("setPriority: seller before position", INDEX, x -> x.setPriority(bad, 4));
            refused("setRent: stall before rent, below", INDEX, x -> x.setRent(bad, -1));
            refused("setRent: stall before rent, above", INDEX, x -> x.setRent(bad, 100));
            refused("deposit: seller before amount, below", INDEX, x -> x.deposit(bad, 0));
            refused("deposit: seller before amount, above", INDEX, x -> x.deposit(bad, 1000));
            refused("assign: seller before not free", INDEX, x -> x.assign(bad, 0));
            refused("assign: seller before too dear", INDEX, x -> x.assign(bad, 3));
            refused("assign: stall before anything", INDEX, x -> x.assign(3, bad));
            refused("vacate: no seller before no stall", INDEX, x -> x.vacate(bad));
            refused("swap: the first before no gain", INDEX, x -> x.swap(bad, 0));
            refused("swap: the second before no gain", INDEX, x -> x.swap(0, bad));
            refused("swap: wrong before equal", INDEX, x -> x.swap(bad, bad));
            refused("removePreference: seller first", INDEX, x -> x.removePreference(bad, 3));
            refused("removePreference: stall before the list", INDEX,
                    x -> x.removePreference(0, bad));
        }
    }

    private static void theInputBuffer() {
        for (int length = 681; length <= 700; length++) {
            StallMarket x = filled(length);
            Check.equal("appendInput at " + length, STATE,
                    thrown(x, y -> y.appendInput(0, 0, 0, 0, 0)));
            expectAlike("appendInput at " + length, filled(length), x);
            int above = length + 1;
            Check.equal("truncateInput to " + above, ARGUMENT, thrown(x, y -> y.truncateInput(above)));
        }
        Check.equal("appendInput at 680", "nothing",
                thrown(filled(680), y -> y.appendInput(0, 0, 0, 0, 0)));
        Check.equal("truncateInput of nothing", ARGUMENT,
                thrown(new StallMarket(), y -> y.truncateInput(1)));
    }

    private static StallMarket filled(int length) {
        StallMarket x = prepared();
        Check.put(x, "deposit dot 5;" + " ".repeat(length - 14));
        return x;
    }

    private static StallMarket onDay(int day) {
        StallMarket x = new StallMarket();
        while (x.day() < day) {
            x.advanceDays(Math.min(99, day - x.day()));
        }
        x.save();
        return x;
    }

    private static void theLastDay() {
        for (int left = 0; left <= 99; left += left < 3 ? 1 : 32) {
            int days = left;
            StallMarket x = onDay(9999 - left);
            Check.equal("one more than " + left + " days", left == 99 ? ARGUMENT : STATE,
                    thrown(x, y -> y.advanceDays(days + 1)));
            Check.equal("no day, " + left + " are left", ARGUMENT, thrown(x, y -> y.advanceDays(0)));
            Check.equal("100 days, " + left + " are left", ARGUMENT,
                    thrown(x, y -> y.advanceDays(100)));
            expectAlike("days on " + x.day(), onDay(9999 - left), x);
            Check.equal(left + " days", left == 0 ? ARGUMENT : "nothing",
                    thrown(x, y -> y.advanceDays(days)));
            Check.equal("the last day", 9999, x.day());
        }
    }

    private static void nothingSaved() {
        StallMarket x = new StallMarket();
        x.swap(0, 1);
        Check.equal("restore", STATE, thrown(x, StallMarket::restore));
        StallMarket y = new StallMarket();
        y.swap(0, 1);
        expectAlike("restore", y, x);
        Check.load(x, "market;stall a 1;seller s 1 1;");
        Check.equal("a setup saves nothing", STATE, thrown(x, StallMarket::restore));
        x.save();
        Check.equal("something is saved", "nothing", thrown(x, StallMarket::restore));
        Check.equal("and remains", "nothing", thrown(x, StallMarket::restore));
    }

    private static StallMarket shaped(int sellers, int stalls) {
        return Check.market("market;" + Check.entries(stalls, "stall @ 0;")
                + Check.entries(sellers, "seller @ 0 0 a;"));
    }

    private static void seller(String what, Indexed act) {
        index(what + ", the seller", true, -1, act);
    }

    private static void stall(String what, Indexed act) {
        index(what + ", the stall", false, -1, act);
    }

    /** The first and the last index are taken; what lies next to them and far off is refused. */
    private static void index(String what, boolean ofSeller, int below, Indexed act) {
        for (int[] shape : new int[][] {{1, 1}, {1, 8}, {8, 1}, {8, 8}, {3, 5}, {5, 3}}) {
            String where = what + " of " + shape[0] + " sellers and " + shape[1] + " stalls: ";
            int count = ofSeller ? shape[0] : shape[1];
            for (int good : new int[] {0, count - 1}) {
                Object kind = thrown(shaped(shape[0], shape[1]), x -> act.on(x, good));
                Check.equal(where + good, true, kind != INDEX && kind != ARGUMENT);
            }
            StallMarket x = shaped(shape[0], shape[1]);
            Check.equal(where + below, INDEX, thrown(x, y -> act.on(y, below)));
            Check.equal(where + count, INDEX, thrown(x, y -> act.on(y, count)));
            Check.equal(where + (count + 1), INDEX, thrown(x, y -> act.on(y, count + 1)));
            for (int far : FAR) {
                Check.equal(where + far, INDEX, thrown(x, y -> act.on(y, far)));
            }
            Check.equal(where + "nothing changes", Check.stateOf(shaped(shape[0], shape[1])),
                    Check.stateOf(x));
        }
    }

    private static void sellerIndices() {
        seller("balance", (x, i) -> x.balance(i));
        seller("income", (x, i) -> x.income(i));
        seller("stallOf", (x, i) -> x.stallOf(i));
        seller("priorityOf", (x, i) -> x.priorityOf(i));
        seller("preferenceCount", (x, i) -> x.preferenceCount(i));
        seller("preferenceAt", (x, i) -> x.preferenceAt(i, 0));
        seller("rankOf", (x, i) -> x.rankOf(i, 0));
        seller("prefers", (x, i) -> x.prefers(i, 0, -1));
        seller("prefers none to none", (x, i) -> x.prefers(i, -1, -1));
        seller("sellerNameByte", (x, i) -> x.sellerNameByte(i, 0));
        seller("sellerNameByte of no byte", (x, i) -> x.sellerNameByte(i, -1));
        seller("envies", (x, i) -> x.envies(i, 0));
        seller("envies, the other", (x, i) -> x.envies(0, i));
        seller("envies itself", (x, i) -> x.envies(i, i));
        seller("wouldSwap", (x, i) -> x.wouldSwap(i, 0));
        seller("wouldSwap, the other", (x, i) -> x.wouldSwap(0, i));
        seller("wouldSwap with itself", (x, i) -> x.wouldSwap(i, i));
        seller("improvingCycleLength", (x, i) -> x.improvingCycleLength(i));
        seller("betterFreeStall", (x, i) -> x.betterFreeStall(i));
        seller("blockReason", (x, i) -> x.blockReason(i, 0));
        seller("allocatedStall", (x, i) -> x.allocatedStall(i));
        seller("allocatedIfFirst", (x, i) -> x.allocatedIfFirst(i));
        seller("allocatedIfReported", (x, i) -> x.allocatedIfReported(i, 0));
        seller("daysUntilEviction", (x, i) -> x.daysUntilEviction(i));
        seller("balanceAfter", (x, i) -> x.balanceAfter(i, 0));
        seller("assign", (x, i) -> x.assign(i, 0));
        seller("vacate", (x, i) -> x.vacate(i));
        seller("swap", (x, i) -> x.swap(i, 0));
        seller("swap, the other", (x, i) -> x.swap(0, i));
        seller("setPriority", (x, i) -> x.setPriority(i, 0));
        seller("preferFirst", (x, i) -> x.preferFirst(i, 0));
        seller("removePreference", (x, i) -> x.removePreference(i, 0));
        seller("deposit", (x, i) -> x.deposit(i, 1));
        seller("writePreferences", (x, i) -> x.writePreferences(i));
    }

    private static void stallIndices() {
        stall("rent", (x, i) -> x.rent(i));
        stall("occupantOf", (x, i) -> x.occupantOf(i));
        stall("rankOf", (x, i) -> x.rankOf(0, i));
        stall("stallNameByte", (x, i) -> x.stallNameByte(i, 0));
        stall("stallNameByte of no byte", (x, i) -> x.stallNameByte(i, -1));
        stall("blockReason", (x, i) -> x.blockReason(0, i));
        stall("allocatedIfReported", (x, i) -> x.allocatedIfReported(0, i));
        stall("assign", (x, i) -> x.assign(0, i));
        stall("preferFirst", (x, i) -> x.preferFirst(0, i));
        stall("removePreference", (x, i) -> x.removePreference(0, i));
        stall("setRent", (x, i) -> x.setRent(i, 0));
    }

    /** Where -1 stands for no stall, -2 is the first that is refused. */
    private static void outcomes() {
        index("prefers, the stall", false, -2, (x, i) -> x.prefers(0, i, -1));
        index("prefers, the other stall", false, -2, (x, i) -> x.prefers(0, -1, i));
        index("prefers, both", false, -2, (x, i) -> x.prefers(0, i, i));
        StallMarket x = shaped(1, 1);
        Check.equal("prefers takes -1", true, x.prefers(0, 0, -1));
        Check.equal("prefers takes -1 as the other", false, x.prefers(0, -1, 0));
    }

    private static void positionsOnALists() {
        for (int count = 0; count <= 8; count++) {
            int length = count;
            StallMarket x = Check.market(Check.setup(8,
                    new String[] {"abcdefgh", "hgfedcba".substring(0, count), "abcdefgh"}, ""));
            if (count > 0) {
                Check.equal("the first of " + count, 7, x.preferenceAt(1, 0));
                Check.equal("the last of " + count, 8 - count, x.preferenceAt(1, count - 1));
            }
            Check.equal("behind the last of " + count, INDEX,
                    thrown(x, y -> y.preferenceAt(1, length)));
            Check.equal("before the first of " + count, INDEX,
                    thrown(x, y -> y.preferenceAt(1, -1)));
            for (int far : FAR) {
                Check.equal(far + " of " + count, INDEX, thrown(x, y -> y.preferenceAt(1, far)));
            }
        }
    }

    /** What a larger market has left behind is not in a smaller one. */
    private static void indicesOfAnEarlierMarket() {
        StallMarket x = shaped(8, 8);
        x.save();
        Check.load(x, "market;stall z 1;seller y 2 3;");
        Check.equal("a seller of the earlier one", INDEX, thrown(x, y -> y.balance(7)));
        Check.equal("a stall of the earlier one", INDEX, thrown(x, y -> y.rent(1)));
        Check.equal("a list of the earlier one", INDEX, thrown(x, y -> y.preferenceAt(0, 0)));
        Check.equal("a position of the earlier one", ARGUMENT, thrown(x, y -> y.setPriority(0, 1)));
        x.restore();
        Check.equal("the earlier seller again", "nothing", thrown(x, y -> y.balance(7)));
        Check.equal("no seller more", INDEX, thrown(x, y -> y.balance(8)));
    }
}
