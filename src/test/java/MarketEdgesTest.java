/**
 * The edges of promises 1 and 8 to 46, and of the sections "Sellers and stalls", "Preferences",
 * "The reallocation mechanism" and "Days": one method a sentence or a promise.
 */
public final class MarketEdgesTest {
    private static final String[] NO_LISTS = {"", "", "", "", "", "", "", ""};
    private static final String ALL = "abcdefgh";

    public static void main(String[] args) {
        leastAndGreatestMarkets();
        preferencesAtTheEndsOfTheList();
        namesFromTheirFirstToTheirLastByte();
        freeStallsFromNoneToAll();
        envyAtTheEdges();
        swapPairsFromNoneToAll();
        cyclesFromTwoToEight();
        cyclesThatAreNone();
        betterFreeStallsFromFirstToLast();
        efficiencyOfTheEmptyAndTheFull();
        blockReasonsInTheirOrder();
        theMechanismWithEight();
        cyclesFromEachPlaceOfTheChain();
        thoseWhoGetNoneHandOnNoTurn();
        theMechanismWithOne();
        theMechanismStepByStep();
        allocatedIfFirstAtBothEnds();
        allocatedIfReportedOnEmptyAndFullLists();
        gainersFromNoneToAll();
        matchingsFromNoneToAll();
        evictionAtTheLastCoin();
        daysUntilEvictionFromOneToFourHundred();
        balanceAfterNoneToFourHundredDays();
        statisticsBeginWithNothing();
        relocationsCountStallsAlone();
        meanRanksFromZeroToSeven();
        placedFractionsFromNoneToAll();
        ledgersOfGreatSums();
        Check.finish("MarketEdgesTest");
    }

    private static StallMarket market(int stalls, String places, String... lists) {
        return Check.market(Check.setup(stalls, lists, places));
    }

    private static void allocates(String what, String want, StallMarket x) {
        Check.equal(what, want, Check.allocated(x));
    }

    /** Each of so many sellers holds its own stall and lists the next one's, the last the first's. */
    private static String[] ring(int length) {
        String[] lists = new String[length];
        for (int i = 0; i < length; i++) {
            lists[i] = String.valueOf(ALL.charAt((i + 1) % length));
        }
        return lists;
    }

    private static void leastAndGreatestMarkets() {
        StallMarket one = Check.market("market;stall a 0;seller s 0 0;");
        Check.equal("one seller", 1, one.sellerCount());
        Check.equal("one stall", 1, one.stallCount());
        Check.equal("its order", 0, one.priorityOf(0));
        Check.equal("no stall", -1, one.stallOf(0));
        Check.equal("no occupant", -1, one.occupantOf(0));
        Check.equal("no balance", 0, one.balance(0));
        Check.equal("no income", 0, one.income(0));
        Check.equal("no rent", 0, one.rent(0));
        Check.equal("day", 0, one.day());
        StallMarket eight = market(8, "hgfedcba", ALL, ALL, ALL, ALL, ALL, ALL, ALL, ALL);
        Check.equal("eight sellers", 8, eight.sellerCount());
        Check.equal("eight stalls", 8, eight.stallCount());
        for (int i = 0; i < 8; i++) {
            Check.equal("priorityOf", i, eight.priorityOf(i));
            Check.equal("stallOf", 7 - i, eight.stallOf(i));
            Check.equal("occupantOf", 7 - i, eight.occupantOf(i));
            Check.equal("preferenceCount", 8, eight.preferenceCount(i));
            for (int place = 0; place < 8; place++) {
                Check.equal("preferenceAt", place, eight.preferenceAt(i, place));
                Check.equal("rankOf", place, eight.rankOf(i, place));
            }
        }
    }

    private static void preferencesAtTheEndsOfTheList() {
        StallMarket full = market(8, "", ALL);
        StallMarket empty = market(8, "", "");
        StallMarket part = market(8, "", "hc");
        for (int stall = -1; stall < 8; stall++) {
            for (int other = -1; other < 8; other++) {
                int place = stall == -1 ? 8 : stall;
                int otherPlace = other == -1 ? 8 : other;
                String what = "prefers " + stall + " to " + other;
                Check.equal(what + ", full", place < otherPlace, full.prefers(0, stall, other));
                Check.equal(what + ", empty", stall == -1 && other != -1,
                        empty.prefers(0, stall, other));
                Check.equal(what + ", part", "hc-".indexOf(sign(stall)) >= 0
                        && ("hc-".indexOf(sign(other)) < 0
                        || "hc-".indexOf(sign(stall)) < "hc-".indexOf(sign(other))),
                        part.prefers(0, stall, other));
            }
            if (stall >= 0) {
                Check.equal("rankOf on a full list", stall, full.rankOf(0, stall));
                Check.equal("rankOf on an empty list", -1, empty.rankOf(0, stall));
            }
        }
    }

    private static char sign(int stall) {
        return stall == -1 ? '-' : ALL.charAt(stall);
    }

    private static void namesFromTheirFirstToTheirLastByte() {
        StallMarket x = Check.market("market;stall qwerty 1;stall z 1;seller m 1 1;seller uvwxyz 1 1;");
        Check.equal("the first byte of a stall", (int) 'q', x.stallNameByte(0, 0));
        Check.equal("the last byte of a stall", (int) 'y', x.stallNameByte(0, 5));
        Check.equal("the only byte of a stall", (int) 'z', x.stallNameByte(1, 0));
        Check.equal("the first byte of a seller", (int) 'u', x.sellerNameByte(1, 0));
        Check.equal("the last byte of a seller", (int) 'z', x.sellerNameByte(1, 5));
        Check.equal("the only byte of a seller", (int) 'm', x.sellerNameByte(0, 0));
        for (int bad : new int[] {Integer.MIN_VALUE, -8, -1, 6, 7, 8, 16, 64, Integer.MAX_VALUE}) {
            Check.equal("a stall's byte " + bad, -1, x.stallNameByte(0, bad));
            Check.equal("a seller's byte " + bad, -1, x.sellerNameByte(1, bad));
        }
        for (int bad = 1; bad < 8; bad++) {
            Check.equal("a short stall's byte " + bad, -1, x.stallNameByte(1, bad));
            Check.equal("a short seller's byte " + bad, -1, x.sellerNameByte(0, bad));
        }
    }

    private static void freeStallsFromNoneToAll() {
        for (int stalls = 1; stalls <= 8; stalls++) {
            for (int occupied = 0; occupied <= stalls; occupied++) {
                StallMarket x = market(stalls, ALL.substring(0, occupied), NO_LISTS);
                Check.equal(occupied + " of " + stalls, stalls - occupied, x.freeStallCount());
            }
        }
    }

    private static void envyAtTheEdges() {
        StallMarket x = market(8, "ah", ALL, ALL, "", "h");
        Check.equal("the last of the list to the first", true, x.envies(1, 0));
        Check.equal("the first of the list to the last", false, x.envies(0, 1));
        Check.equal("without a stall and an empty list", false, x.envies(2, 0));
        Check.equal("without a stall, on the list", true, x.envies(3, 1));
        Check.equal("without a stall, off the list", false, x.envies(3, 0));
        Check.equal("one without a stall", false, x.envies(1, 2));
        Check.equal("both without a stall", false, x.envies(3, 2));
        for (int seller = 0; seller < 4; seller++) {
            Check.equal("itself", false, x.envies(seller, seller));
            Check.equal("with itself", false, x.wouldSwap(seller, seller));
        }
        StallMarket off = market(2, "ab", "", "");
        Check.equal("from one unacceptable stall to another", false, off.envies(0, 1));
        Check.equal("no swap of unacceptable stalls", false, off.wouldSwap(0, 1));
    }

    private static void swapPairsFromNoneToAll() {
        for (int count = 1; count <= 8; count++) {
            String[] others = new String[count];
            String[] own = new String[count];
            for (int i = 0; i < count; i++) {
                own[i] = ALL.substring(i, i + 1);
                others[i] = ALL.substring(0, count).replace(own[i], "");
            }
            Check.equal("all pairs of " + count, count * (count - 1) / 2,
                    market(8, ALL.substring(0, count), others).swapPairCount());
            Check.equal("none of " + count, 0,
                    market(8, ALL.substring(0, count), own).swapPairCount());
            Check.equal("none without stalls of " + count, 0, market(8, "", others).swapPairCount());
        }
    }

    private static void cyclesFromTwoToEight() {
        for (int length = 2; length <= 8; length++) {
            StallMarket x = market(8, ALL.substring(0, length), ring(length));
            for (int seller = 0; seller < length; seller++) {
                Check.equal("a ring of " + length, length, x.improvingCycleLength(seller));
            }
            Check.equal("is not efficient", false, x.isEfficient());
            Check.equal("pairs in it", length == 2 ? 1 : 0, x.swapPairCount());
            x.vacate(length - 1);
            for (int seller = 0; seller < length; seller++) {
                Check.equal("an open ring of " + length, -1, x.improvingCycleLength(seller));
            }
        }
    }

    private static void cyclesThatAreNone() {
        Check.equal("one seller alone", -1, market(1, "a", "a").improvingCycleLength(0));
        Check.equal("one seller, an unacceptable stall", -1,
                market(1, "a", "").improvingCycleLength(0));
        Check.equal("no stall", -1, market(1, "", "a").improvingCycleLength(0));
        StallMarket none = market(2, "-b", "b", "b");
        Check.equal("no stall, though it envies", -1, none.improvingCycleLength(0));
        StallMarket equal = market(2, "ab", "", "");
        Check.equal("indifferent", -1, equal.improvingCycleLength(0));
        StallMarket tail = market(4, "abcd", "b", "c", "b", "a");
        Check.equal("leads into a cycle", -1, tail.improvingCycleLength(3));
        Check.equal("leads into it at once", -1, tail.improvingCycleLength(0));
        Check.equal("the cycle", 2, tail.improvingCycleLength(1));
    }

    private static void betterFreeStallsFromFirstToLast() {
        for (int held = 0; held < 8; held++) {
            StallMarket x = market(8, ALL.substring(held, held + 1), ALL);
            Check.equal("from the place " + held, held == 0 ? -1 : 0, x.betterFreeStall(0));
        }
        Check.equal("only the last of eight is free", 7,
                market(8, "-abcdefg", ALL, "", "", "", "", "", "", "").betterFreeStall(0));
        Check.equal("all are occupied", -1,
                market(8, "habcdefg", ALL, "", "", "", "", "", "", "").betterFreeStall(0));
        Check.equal("free, but behind its own", -1, market(8, "a", ALL).betterFreeStall(0));
        Check.equal("free, but not on the list", -1, market(8, "a", "a").betterFreeStall(0));
        Check.equal("none on an empty list", -1, market(8, "", "").betterFreeStall(0));
        Check.equal("none from an unacceptable one", -1, market(8, "a", "").betterFreeStall(0));
        Check.equal("the first one from an unacceptable one", 7,
                market(8, "a", "hb").betterFreeStall(0));
    }

    private static void efficiencyOfTheEmptyAndTheFull() {
        Check.equal("nobody wants anything", true, market(8, "", NO_LISTS).isEfficient());
        Check.equal("each has its first", true,
                market(8, ALL, "a", "b", "c", "d", "e", "f", "g", "h").isEfficient());
        Check.equal("only a cycle of eight", false, market(8, ALL, ring(8)).isEfficient());
        Check.equal("acceptable, and a cycle of eight", false, market(8, ALL, "ba", "cb", "dc", "ed",
                "fe", "gf", "hg", "ah").isEfficient());
        Check.equal("only the last seller has a better free stall", false,
                market(8, "abcdefg", "a", "b", "c", "d", "e", "f", "g", "h").isEfficient());
        Check.equal("only the last seller is in an unacceptable stall", false,
                market(8, ALL, "a", "b", "c", "d", "e", "f", "g", "").isEfficient());
        Check.equal("one seller in its stall", true, market(1, "a", "a").isEfficient());
        Check.equal("one seller without it", false, market(1, "", "a").isEfficient());
        Check.equal("one seller in an unacceptable stall", false, market(1, "a", "").isEfficient());
    }

    private static void blockReasonsInTheirOrder() {
        StallMarket x = Check.market("market;stall a 9;stall b 9;stall c 9;stall d 0;"
                + "seller s 8 0 b a c at b;seller t 0 0 b at a;seller u 9 0 a b c;");
        Check.equal("0 before 3 and 4: its own", 0, x.blockReason(0, 1));
        Check.equal("0 before 1: its own, unacceptable", 0, x.blockReason(1, 0));
        Check.equal("1 before 4: unacceptable and too dear", 1, x.blockReason(1, 2));
        Check.equal("1 before 5", 1, x.blockReason(0, 3));
        Check.equal("1 before 3: a stall of another", 1, market(2, "ab", "a", "b").blockReason(0, 1));
        Check.equal("2 before 3: worse, of another", 2, x.blockReason(0, 0));
        Check.equal("2 before 4: worse, too dear", 2, x.blockReason(0, 2));
        Check.equal("3 before 4: of another, too dear", 3, x.blockReason(1, 1));
        Check.equal("3 before 5: of another", 3, x.blockReason(2, 0));
        Check.equal("5: the rent is the balance", 5, x.blockReason(2, 2));
        x.setRent(2, 10);
        Check.equal("4: one coin too dear", 4, x.blockReason(2, 2));
        x.setRent(2, 0);
        Check.equal("5: no rent", 5, x.blockReason(2, 2));
        Check.equal("2 is not for those without a stall", 5, market(2, "", "ab").blockReason(0, 1));
        Check.equal("2 is not for an unacceptable one", 5, market(3, "c", "ab").blockReason(0, 1));
        StallMarket best = market(2, "b", "ab");
        Check.equal("5: the better one", 5, best.blockReason(0, 0));
    }

    private static void theMechanismWithEight() {
        StallMarket ring = market(8, ALL, ring(8));
        allocates("a cycle of eight", "12345670", ring);
        Check.equal("reallocate", 8, ring.reallocate());
        Check.equal("places", "12345670", Check.places(ring));
        Check.equal("relocationCount", 8, ring.relocationCount());
        StallMarket chain = market(8, "abcdefg", "b", "c", "d", "e", "f", "g", "h", "a");
        allocates("a chain of eight, whose last finds a free stall", "12345670", chain);
        StallMarket dead = market(8, ALL, "b", "c", "d", "e", "f", "g", "h", "");
        allocates("a chain of eight, whose last wants none", "1234567-", dead);
        Check.equal("reallocate", 8, dead.reallocate());
        Check.equal("relocationCount", 7, dead.relocationCount());
        StallMarket keeps = market(8, ALL, "bh", "ch", "dh", "eh", "fh", "gh", "h", "h");
        allocates("a chain of eight, whose last keeps its own", "123456-7", keeps);
        StallMarket same = market(8, "", ALL, ALL, ALL, ALL, ALL, ALL, ALL, ALL);
        allocates("eight of the same list", "01234567", same);
        for (int seller = 0; seller < 8; seller++) {
            same.setPriority(seller, 0);
        }
        allocates("in the turned order", "76543210", same);
        allocates("eight for one stall", "0-------", market(1, "", "a", "a", "a", "a", "a",
                "a", "a", "a"));
        allocates("the one who holds it keeps it", "-------0", market(1, "-------a", "a",
                "a", "a", "a", "a", "a", "a", "a"));
    }

    /** The last of the chain requests the stall of the seller at each place of it, its own at last. */
    private static void cyclesFromEachPlaceOfTheChain() {
        for (int place = 0; place < 8; place++) {
            String[] lists = ring(8);
            lists[7] = ALL.substring(place, place + 1);
            StringBuilder want = new StringBuilder("1234567").append(place);
            if (place > 0) {
                want.setCharAt(place - 1, '-');
            }
            StallMarket x = market(8, ALL, lists);
            allocates("back to the place " + place, want.toString(), x);
            Check.equal("reallocate", 8 - (place == 7 ? 1 : 0), x.reallocate());
            Check.equal("places", want.toString(), Check.places(x));
        }
    }

    /** A seller who gets none hands its turn to nobody: the next one by priority follows. */
    private static void thoseWhoGetNoneHandOnNoTurn() {
        for (int none = 0; none < 3; none++) {
            int low = none == 0 ? 1 : 0;
            int high = 3 - none - low;
            String[] lists = {"a", "a", "a"};
            lists[none] = "";
            StallMarket x = market(1, "", lists);
            x.setPriority(none, 0);
            x.setPriority(high, 1);
            Check.equal("the next, none by " + none, 0, x.allocatedStall(high));
            Check.equal("the last, none by " + none, -1, x.allocatedStall(low));
            x.setPriority(low, 1);
            Check.equal("the next turned, none by " + none, 0, x.allocatedStall(low));
            Check.equal("the last turned, none by " + none, -1, x.allocatedStall(high));
        }
    }

    private static void theMechanismWithOne() {
        allocates("a free stall", "0", market(1, "", "a"));
        allocates("its own stall", "0", market(1, "a", "a"));
        allocates("an empty list", "-", market(1, "a", ""));
        allocates("neither", "-", market(1, "", ""));
        StallMarket x = market(1, "a", "");
        Check.equal("reallocate takes it away", 1, x.reallocate());
        Check.equal("none", -1, x.stallOf(0));
        Check.equal("free", -1, x.occupantOf(0));
        Check.equal("once", 0, x.reallocate());
        Check.equal("an operation all the same", 2, x.undoCount());
    }

    private static void theMechanismStepByStep() {
        allocates("1: the highest priority comes first", "0-", market(1, "", "a", "a"));
        allocates("2: the first that is available", "01", market(2, "", "a", "ab"));
        allocates("3: none is available", "0--", market(2, "", "a", "a", ""));
        allocates("4: free before", "1-", market(2, "a", "b", ""));
        allocates("4: its own before", "0-", market(2, "a", "a", "a"));
        allocates("4: of a finished seller before", "10", market(2, "a", "b", "a"));
        allocates("4: of a finished seller who got none", "-0", market(1, "a", "", "a"));
        allocates("5: the other comes into the chain", "012", market(3, "-ab", "a", "b", "c"));
        allocates("5: a cycle of two behind the first", "210", market(3, "-ab", "bc", "b", "a"));
        allocates("5: a cycle of all", "10", market(2, "ab", "b", "a"));
        allocates("5: the cycle leaves out those before it", "-102",
                market(3, "-abc", "b", "b", "a", "c"));
    }

    private static void allocatedIfFirstAtBothEnds() {
        StallMarket x = market(8, "", ALL, ALL, ALL, ALL, ALL, ALL, ALL, ALL);
        String order = Check.order(x);
        for (int seller = 0; seller < 8; seller++) {
            Check.equal("as it is", seller, x.allocatedStall(seller));
            Check.equal("if first", 0, x.allocatedIfFirst(seller));
        }
        Check.equal("the order stays", order, Check.order(x));
        Check.equal("no operation", 0, x.undoCount());
        Check.equal("an empty list", -1, market(1, "a", "").allocatedIfFirst(0));
        // Seller c is the last; a and b keep their order before it, so a holds its turn over b.
        StallMarket y = market(3, "", "a", "ab", "cb");
        Check.equal("the last of three", 2, y.allocatedIfFirst(2));
        StallMarket z = market(2, "a--", "b", "a", "b");
        Check.equal("the order of the others counts", 1, z.allocatedIfFirst(2));
        Check.equal("the first is first already", 1, z.allocatedIfFirst(0));
    }

    private static void allocatedIfReportedOnEmptyAndFullLists() {
        StallMarket full = market(8, "", ALL);
        StallMarket empty = market(8, "", "");
        for (int stall = 0; stall < 8; stall++) {
            Check.equal("a full list", stall, full.allocatedIfReported(0, stall));
            Check.equal("an empty list", stall, empty.allocatedIfReported(0, stall));
        }
        Check.equal("the full list stays", "01234567", Check.list(full, 0));
        Check.equal("the empty list stays", "", Check.list(empty, 0));
        Check.equal("no operation", 0, full.undoCount());
        StallMarket taken = market(8, "", "a", "bc");
        Check.equal("taken: the first of the others", 1, taken.allocatedIfReported(1, 0));
        StallMarket alone = market(8, "", "a", "");
        Check.equal("taken: no others", -1, alone.allocatedIfReported(1, 0));
        StallMarket eight = market(8, "", "a", "b", "c", "d", "e", "f", "g", ALL);
        for (int stall = 0; stall < 8; stall++) {
            Check.equal("seven are taken", 7, eight.allocatedIfReported(7, stall));
        }
    }

    private static void gainersFromNoneToAll() {
        Check.equal("all of eight", 8, market(8, ALL, ring(8)).gainerCount());
        Check.equal("none of eight", 0,
                market(8, ALL, "a", "b", "c", "d", "e", "f", "g", "h").gainerCount());
        Check.equal("from none to a stall", 1, market(1, "", "a").gainerCount());
        Check.equal("from an unacceptable stall to none", 1, market(1, "a", "").gainerCount());
        Check.equal("from none to none", 0, market(1, "", "").gainerCount());
        Check.equal("from its stall to its stall", 0, market(1, "a", "a").gainerCount());
        Check.equal("a loser is no gainer", 1, market(2, "-a", "", "ba").gainerCount());
    }

    private static void matchings(int size, int sum, int stalls, String... lists) {
        StallMarket x = market(stalls, "", lists);
        String what = stalls + " stalls, " + String.join(",", lists);
        Check.equal("size of " + what, size, x.maximumMatchingSize());
        Check.equal("sum of " + what, sum, x.leastRankSum());
    }

    private static void matchingsFromNoneToAll() {
        matchings(0, 0, 8, NO_LISTS);
        matchings(0, 0, 1, "");
        matchings(1, 0, 1, "a");
        matchings(1, 0, 1, "a", "a", "a", "a", "a", "a", "a", "a");
        matchings(1, 0, 8, ALL);
        matchings(8, 28, 8, ALL, ALL, ALL, ALL, ALL, ALL, ALL, ALL);
        matchings(8, 0, 8, "a", "b", "c", "d", "e", "f", "g", "h");
        matchings(8, 0, 8, "h", "g", "f", "e", "d", "c", "b", "a");
        matchings(8, 1, 8, "ah", "ab", "bc", "cd", "de", "ef", "fg", "gh");
        matchings(8, 7, 8, "a", "ab", "bc", "cd", "de", "ef", "fg", "gh");
        matchings(7, 0, 8, "a", "b", "c", "d", "e", "f", "g", "");
        matchings(7, 0, 7, "a", "b", "c", "d", "e", "f", "g", "abcdefg");
        matchings(8, 7, 8, "a", "b", "c", "d", "e", "f", "g", ALL);
        matchings(2, 1, 3, "a", "abc", "a", "a", "a", "", "", "");
        matchings(3, 3, 3, "abc", "ab", "a");
    }

    private static void evictionAtTheLastCoin() {
        StallMarket x = Check.market("market;stall a 99;stall b 99;stall c 99;stall d 0;stall e 1;"
                + "seller s 0 99 at a;seller t 99 0 at b;seller u 98 0 at c;seller v 0 0 at d;"
                + "seller w 0 0 at e;seller x 0 99;");
        Check.equal("two are evicted", 2, x.advanceDays(1));
        Check.equal("balances", "0 0 98 0 0 99", Check.balances(x));
        Check.equal("places", "01-3--", Check.places(x));
        Check.equal("rentPaid", 198, x.rentPaid());
        Check.equal("evictionCount", 2, x.evictionCount());
        Check.equal("day", 1, x.day());
        Check.equal("the next day evicts one", 1, x.advanceDays(1));
        Check.equal("balances", "0 0 98 0 0 198", Check.balances(x));
        Check.equal("evictionCount", 3, x.evictionCount());
    }

    private static void daysUntilEvictionFromOneToFourHundred() {
        for (int balance : new int[] {0, 1, 2, 398, 399, 400, 401, 9999}) {
            StallMarket x = Check.market("market;stall a 1;seller s " + balance + " 0 at a;");
            Check.equal("a coin a day of " + balance, balance < 400 ? balance + 1 : -1,
                    x.daysUntilEviction(0));
        }
        for (int income : new int[] {0, 98, 99}) {
            StallMarket x = Check.market("market;stall a 99;seller s 0 " + income + " at a;");
            Check.equal("the greatest rent, an income of " + income, income == 99 ? -1 : 1,
                    x.daysUntilEviction(0));
        }
        Check.equal("no rent", -1,
                Check.market("market;stall a 0;seller s 0 0 at a;").daysUntilEviction(0));
        Check.equal("no stall", -1,
                Check.market("market;stall a 9;seller s 0 0;").daysUntilEviction(0));
        Check.equal("a coin less a day", 100,
                Check.market("market;stall a 10;seller s 99 9 at a;").daysUntilEviction(0));
    }

    private static void balanceAfterNoneToFourHundredDays() {
        StallMarket x = Check.market("market;stall a 99;stall b 0;stall c 1;seller s 9999 99;"
                + "seller t 9999 99 at a;seller u 0 99 at b;seller v 399 0 at c;seller w 0 0;");
        Check.equal("no days", 9999, x.balanceAfter(0, 0));
        Check.equal("400 days", 9999 + 400 * 99, x.balanceAfter(0, 400));
        Check.equal("rent as high as income", 9999, x.balanceAfter(1, 400));
        Check.equal("no rent", 400 * 99, x.balanceAfter(2, 400));
        Check.equal("one day", 398, x.balanceAfter(3, 1));
        Check.equal("399 days", 0, x.balanceAfter(3, 399));
        Check.equal("400 days and evicted", 0, x.balanceAfter(3, 400));
        Check.equal("nothing at all", 0, x.balanceAfter(4, 400));
        Check.equal("nothing has changed", 9999, x.balance(0));
        Check.equal("no day has passed", 0, x.day());
        StallMarket late = Check.market("market;stall a 50;seller s 60 20 at a;");
        Check.equal("30 left", 30, late.balanceAfter(0, 1));
        Check.equal("none left", 0, late.balanceAfter(0, 2));
        Check.equal("evicted", 20, late.balanceAfter(0, 3));
        Check.equal("it pays no more", 40, late.balanceAfter(0, 4));
    }

    private static void statisticsBeginWithNothing() {
        StallMarket x = new StallMarket();
        Check.equal("a new object", "0 0 0 0", Check.statistics(x));
        x.swap(0, 1);
        x.reallocate();
        x.advanceDays(9);
        Check.equal("all have counted", true, x.rentPaid() > 0 && x.evictionCount() > 0
                && x.swapCount() > 0 && x.relocationCount() > 0 && x.day() > 0);
        Check.load(x, "market;stall a 1;seller s 1 1 a;");
        Check.equal("a new setup", "0 0 0 0", Check.statistics(x));
        Check.equal("its day", 0, x.day());
        Check.equal("its ledger", 0, x.ledgerDifference());
    }

    private static void relocationsCountStallsAlone() {
        StallMarket x = market(3, "ab", "c", "", "a");
        Check.equal("one moves, one leaves, one gets its first", 3, x.reallocate());
        Check.equal("places", "2-0", Check.places(x));
        Check.equal("two of them count", 2, x.relocationCount());
        Check.equal("nothing changes", 0, x.reallocate());
        Check.equal("nothing counts", 2, x.relocationCount());
        x.vacate(0);
        Check.equal("the same stall again", 1, x.reallocate());
        Check.equal("counts again", 3, x.relocationCount());
        Check.equal("by a script", 2, Check.run(x, "vacate a;reallocate;"));
        Check.equal("counts as well", 4, x.relocationCount());
        x.undo();
        Check.equal("undone", 3, x.relocationCount());
    }

    private static void meanRanksFromZeroToSeven() {
        for (int held = 0; held < 8; held++) {
            StallMarket x = market(8, ALL.substring(held, held + 1), ALL);
            Check.equal("the place " + held, (double) held, x.meanRank());
        }
        Check.equal("all eight places", 3.5,
                market(8, ALL, ALL, ALL, ALL, ALL, ALL, ALL, ALL, ALL).meanRank());
        Check.equal("no stall", 0.0, market(8, "", ALL).meanRank());
        Check.equal("an unacceptable stall", 0.0, market(8, "a", "").meanRank());
        Check.equal("one of two counts", 2.0, market(8, "ca", ALL, "").meanRank());
        Check.equal("thirds", 1.0 / 3.0, market(8, "abd", "a", "b", "cd").meanRank());
        Check.equal("sevenths", 1.0 / 7.0,
                market(8, ALL, "a", "b", "c", "d", "e", "f", "ag", "").meanRank());
    }

    private static void placedFractionsFromNoneToAll() {
        for (int sellers = 1; sellers <= 8; sellers++) {
            for (int placed = 0; placed <= sellers; placed++) {
                String[] lists = java.util.Arrays.copyOf(NO_LISTS, sellers);
                StallMarket x = market(8, ALL.substring(0, placed), lists);
                Check.equal(placed + " of " + sellers, (float) placed / (float) sellers,
                        x.placedFraction());
            }
        }
    }

    private static void ledgersOfGreatSums() {
        StallMarket x = Check.market("market;" + Check.entries(8, "stall @ 99;")
                + Check.entries(8, "seller @ 9999 99 at @;"));
        Check.equal("at first", 0, x.ledgerDifference());
        for (int i = 0; i < 8; i++) {
            x.deposit(i, 999);
            x.advanceDays(99);
            x.vacate(7 - i);
            x.advanceDays(99);
            Check.equal("ledger", 0, x.ledgerDifference());
        }
        Check.equal("eight for half of the days", 99 * 99 * 64, x.rentPaid());
        x.undo();
        x.undo();
        Check.equal("undone", 0, x.ledgerDifference());
        x.save();
        x.deposit(0, 1);
        x.restore();
        Check.equal("restored", 0, x.ledgerDifference());
    }
}
