/** Promises 32 to 35, 43 and 50: the mechanism. */
public final class AllocationTest {
    public static void main(String[] args) {
        newMarket();
        requestsGiveTurns();
        chainsReturnToEarlierSellers();
        sellersWithNothingToWish();
        priorities();
        reports();
        relocations();
        moneyDoesNotMatter();
        eachCallLooksAtTheMarketAsItIs();
        nothingLeftGivesNoTurn();
        wrongInputs();
        Check.finish("AllocationTest");
    }

    private static void newMarket() {
        StallMarket x = new StallMarket();
        String before = Check.stateOf(x);
        Check.equal("allocated", "1023", Check.allocated(x));
        Check.equal("gainers", 4, x.gainerCount());
        x.allocatedIfFirst(3);
        x.allocatedIfReported(2, 3);
        Check.equal("nothing changes", before, Check.stateOf(x));
        Check.equal("reallocate", 4, x.reallocate());
        Check.equal("places", "1023", Check.places(x));
        Check.equal("relocationCount", 4, x.relocationCount());
        Check.equal("gainers afterwards", 0, x.gainerCount());
        Check.equal("again", 0, x.reallocate());
        Check.equal("relocationCount again", 4, x.relocationCount());
        Check.equal("undoCount", 2, x.undoCount());
        x.undo();
        x.undo();
        Check.equal("undone", before, Check.stateOf(x));
    }

    /** s requests the house of u, who gets the turn before t and takes the stall t wants. */
    private static void requestsGiveTurns() {
        StallMarket x = Check.market("market;stall a 0;stall b 0;seller s 0 0 a;seller t 0 0 b;"
                + "seller u 0 0 b a at a;");
        Check.equal("u gets b before t", "0-1", Check.allocated(x));
        x.vacate(2);
        Check.equal("without a house no turn", "01-", Check.allocated(x));
        StallMarket keeps = Check.market("market;stall a 0;seller s 0 0 a;seller t 0 0 a at a;");
        Check.equal("the owner keeps what it wants", "-0", Check.allocated(keeps));
        StallMarket gone = Check.market("market;stall a 0;stall b 0;seller s 0 0 b a at a;"
                + "seller t 0 0 a;");
        Check.equal("the stall of a finished seller", "10", Check.allocated(gone));
    }

    private static void chainsReturnToEarlierSellers() {
        // s requests b of t, t requests a of u, u requests b of t: t and u trade, s asks again.
        StallMarket x = Check.market("market;stall a 0;stall b 0;stall c 0;seller s 0 0 b c;"
                + "seller t 0 0 a at b;seller u 0 0 b at a;");
        Check.equal("the cycle leaves out the first", "201", Check.allocated(x));
        Check.equal("reallocate", 3, x.reallocate());
        Check.equal("relocationCount", 3, x.relocationCount());
        StallMarket all = Check.market("market;stall a 0;stall b 0;stall c 0;"
                + "seller s 0 0 b at a;seller t 0 0 c at b;seller u 0 0 a at c;");
        Check.equal("a cycle of all", "120", Check.allocated(all));
        // The chain s, t, u ends as u takes the free d; t then takes u's c and s takes t's b.
        StallMarket free = Check.market("market;stall a 0;stall b 0;stall c 0;stall d 0;"
                + "seller s 0 0 b at a;seller t 0 0 c at b;seller u 0 0 d at c;");
        Check.equal("a chain to a free stall", "123", Check.allocated(free));
    }

    private static void sellersWithNothingToWish() {
        StallMarket x = Check.market("market;stall a 0;stall b 0;seller s 0 0 at a;"
                + "seller t 0 0 a at b;seller u 0 0;");
        Check.equal("an empty list gives up the stall", "-0-", Check.allocated(x));
        Check.equal("gainers: the unacceptable stall is worse than none", 2, x.gainerCount());
        Check.equal("reallocate counts both", 2, x.reallocate());
        Check.equal("relocationCount counts one", 1, x.relocationCount());
        Check.equal("places", "-0-", Check.places(x));
        StallMarket y = Check.market("market;stall a 0;stall b 0;seller s 0 0 a;seller t 0 0 a at b;");
        Check.equal("none of the list is left", "0-", Check.allocated(y));
        Check.equal("gainers", 2, y.gainerCount());
        StallMarket same = Check.market("market;stall a 0;seller s 0 0 a at a;seller t 0 0;");
        Check.equal("nobody gains", 0, same.gainerCount());
    }

    private static void priorities() {
        StallMarket x = Check.market("market;stall a 0;stall b 0;stall c 0;seller s 0 0 a b c;"
                + "seller t 0 0 a b c;seller u 0 0 a c b;");
        Check.equal("by index", "012", Check.allocated(x));
        Check.equal("t first", 0, x.allocatedIfFirst(1));
        Check.equal("u first", 0, x.allocatedIfFirst(2));
        Check.equal("s is first", 0, x.allocatedIfFirst(0));
        x.setPriority(2, 0);
        Check.equal("u at the top", "120", Check.allocated(x));
        Check.equal("s first, the others in their order", 0, x.allocatedIfFirst(0));
        x.setPriority(1, 0);
        Check.equal("t, u, s", "102", Check.allocated(x));
        // If s is first, u follows t still: s keeps a from both, t takes b, u takes c.
        StallMarket y = Check.market("market;stall a 0;stall b 0;seller s 0 0 a at b;"
                + "seller t 0 0 a;seller u 0 0 b;");
        y.setPriority(1, 0);
        Check.equal("t takes a first", "-01", Check.allocated(y));
        Check.equal("s if first", 0, y.allocatedIfFirst(0));
        Check.equal("the order stays", "102", Check.order(y));
    }

    private static void reports() {
        StallMarket x = new StallMarket();
        Check.equal("a stall off the list", 3, x.allocatedIfReported(2, 3));
        Check.equal("its own stall", 0, x.allocatedIfReported(0, 0));
        Check.equal("the list stays", "10", Check.list(x, 0));
        StallMarket y = Check.market("market;stall a 0;stall b 0;stall c 0;seller s 0 0 a at a;"
                + "seller t 0 0 b c;");
        Check.equal("not to be had: the list follows", 1, y.allocatedIfReported(1, 0));
        Check.equal("from its middle to the front", 2, y.allocatedIfReported(1, 2));
        StallMarket full = Check.market("market;stall a 0;stall b 0;stall c 0;stall d 0;stall e 0;"
                + "stall f 0;stall g 0;stall h 0;seller s 0 0 a b c d e f g h;");
        for (int stall = 0; stall < 8; stall++) {
            Check.equal("a full list, " + stall, stall, full.allocatedIfReported(0, stall));
        }
        StallMarket empty = Check.market("market;stall a 0;seller s 0 0;");
        Check.equal("an empty list", 0, empty.allocatedIfReported(0, 0));
        Check.equal("without the report", -1, empty.allocatedStall(0));
    }

    private static void relocations() {
        StallMarket x = Check.market("market;stall a 0;stall b 0;stall c 0;seller s 0 0 b a at a;"
                + "seller t 0 0 c;seller u 0 0 at c;seller v 0 0 b at b;");
        // s keeps a, since v keeps b; t gets its first stall from u, who gives up c.
        Check.equal("allocated", "02-1", Check.allocated(x));
        Check.equal("reallocate", 2, x.reallocate());
        Check.equal("relocationCount", 1, x.relocationCount());
        x.preferFirst(0, 2);
        x.setPriority(0, 0);
        x.removePreference(1, 2);
        Check.equal("the next reallocation", 2, x.reallocate());
        Check.equal("places", "2--1", Check.places(x));
        Check.equal("summed over both", 2, x.relocationCount());
        x.assign(1, 0);
        Check.equal("assign is no reallocation", 2, x.relocationCount());
    }

    private static void moneyDoesNotMatter() {
        StallMarket x = Check.market("market;stall a 99;stall b 99;seller s 0 0 b a at a;"
                + "seller t 0 0 a at b;");
        Check.equal("allocated", "10", Check.allocated(x));
        Check.equal("reallocate", 2, x.reallocate());
        Check.equal("balances", "0 0", Check.balances(x));
        Check.equal("rentPaid", 0, x.rentPaid());
        Check.equal("day", 0, x.day());
    }

    /** No answer may come from what an earlier call has worked out. */
    private static void eachCallLooksAtTheMarketAsItIs() {
        Check.equal("gainers as the first call", 4, new StallMarket().gainerCount());
        StallMarket x = Check.market("market;stall a 0;stall b 0;seller s 0 0 a;seller t 0 0 a b;");
        Check.equal("t first", 0, x.allocatedIfFirst(1));
        Check.equal("t reports b", 1, x.allocatedIfReported(1, 1));
        Check.equal("gainers", 2, x.gainerCount());
        x.assign(0, 0);
        Check.equal("t first, s at a", 1, x.allocatedIfFirst(1));
        Check.equal("gainers, s at a", 1, x.gainerCount());
        x.removePreference(1, 1);
        Check.equal("t first, without b", -1, x.allocatedIfFirst(1));
        Check.equal("t reports a, without b", -1, x.allocatedIfReported(1, 0));
        x.preferFirst(0, 1);
        Check.equal("t reports a, s wants b", 0, x.allocatedIfReported(1, 0));
        Check.equal("t as it is", 0, x.allocatedStall(1));
    }

    /** A seller without a request must not pass its turn on to another one, the first by index. */
    private static void nothingLeftGivesNoTurn() {
        StallMarket x = Check.market("market;stall a 0;seller s 0 0 a;seller t 0 0;seller u 0 0 a;");
        x.setPriority(0, 2);
        Check.equal("t, u, s", "--0", Check.allocated(x));
        x.setPriority(1, 2);
        Check.equal("u, s, t", "--0", Check.allocated(x));
        x.setPriority(0, 0);
        Check.equal("s, u, t", "0--", Check.allocated(x));
    }

    private static void wrongInputs() {
        StallMarket x = new StallMarket();
        for (int bad : new int[] {-1, 4, 8, Integer.MAX_VALUE, Integer.MIN_VALUE}) {
            Check.index("allocatedStall " + bad, x, () -> x.allocatedStall(bad));
            Check.index("allocatedIfFirst " + bad, x, () -> x.allocatedIfFirst(bad));
            Check.index("allocatedIfReported " + bad, x, () -> x.allocatedIfReported(bad, 0));
            Check.index("allocatedIfReported stall " + bad, x, () -> x.allocatedIfReported(0, bad));
        }
    }
}
