/** Promises 25 to 31: envy, swaps, improving cycles, free stalls, efficiency and blocking. */
public final class ExchangeTest {
    public static void main(String[] args) {
        envy();
        swaps();
        cycles();
        freeStalls();
        efficiency();
        blocking();
        Check.finish("ExchangeTest");
    }

    private static void envy() {
        StallMarket x = new StallMarket();
        Check.equal("a better stall", true, x.envies(0, 1));
        Check.equal("a stall instead of none", true, x.envies(2, 1));
        Check.equal("an unacceptable stall", false, x.envies(2, 0));
        Check.equal("one without a stall", false, x.envies(0, 2));
        Check.equal("oneself", false, x.envies(0, 0));
        Check.equal("oneself without a stall", false, x.envies(2, 2));
        x.swap(0, 1);
        Check.equal("a worse stall", false, x.envies(0, 1));
        x.removePreference(1, 0);
        Check.equal("none is better than unacceptable", false, x.envies(1, 2));
        x.removePreference(0, 1);
        Check.equal("from an unacceptable stall to the list", true, x.envies(0, 1));
        for (int bad : new int[] {-1, 4, Integer.MAX_VALUE, Integer.MIN_VALUE}) {
            Check.index("envies " + bad, x, () -> x.envies(bad, 0));
            Check.index("envies other " + bad, x, () -> x.envies(0, bad));
            Check.index("wouldSwap " + bad, x, () -> x.wouldSwap(bad, 0));
            Check.index("wouldSwap other " + bad, x, () -> x.wouldSwap(0, bad));
            Check.index("improvingCycleLength " + bad, x, () -> x.improvingCycleLength(bad));
            Check.index("betterFreeStall " + bad, x, () -> x.betterFreeStall(bad));
            Check.index("blockReason " + bad, x, () -> x.blockReason(bad, 0));
            Check.index("blockReason stall " + bad, x, () -> x.blockReason(0, bad));
        }
    }

    private static void swaps() {
        StallMarket x = new StallMarket();
        Check.equal("both gain", true, x.wouldSwap(0, 1));
        Check.equal("both gain, turned", true, x.wouldSwap(1, 0));
        Check.equal("the same seller", false, x.wouldSwap(0, 0));
        Check.equal("one without a stall", false, x.wouldSwap(2, 1));
        Check.equal("one without a stall, turned", false, x.wouldSwap(1, 2));
        Check.equal("two without a stall", false, x.wouldSwap(2, 3));
        Check.equal("one pair", 1, x.swapPairCount());
        x.swap(0, 1);
        Check.equal("nobody gains", false, x.wouldSwap(0, 1));
        Check.equal("no pair", 0, x.swapPairCount());
        StallMarket one = Check.market("market;stall a 0;stall b 0;seller s 0 0 b a at a;"
                + "seller t 0 0 b a at b;");
        Check.equal("only the first gains", false, one.wouldSwap(0, 1));
        Check.equal("only the second gains", false, one.wouldSwap(1, 0));
        // All in stalls that are not on their lists, each wanting all others: every pair swaps.
        StallMarket many = Check.market("market;stall a 0;stall b 0;stall c 0;seller s 0 0 b c at a;"
                + "seller t 0 0 a c at b;seller u 0 0 a b at c;");
        Check.equal("three pairs", 3, many.swapPairCount());
        StallMarket poor = Check.market("market;stall a 99;stall b 99;seller s 0 0 b at a;"
                + "seller t 0 0 a at b;");
        Check.equal("money does not matter", true, poor.wouldSwap(0, 1));
    }

    private static void cycles() {
        StallMarket x = new StallMarket();
        Check.equal("two", 2, x.improvingCycleLength(0));
        Check.equal("without a stall", -1, x.improvingCycleLength(2));
        StallMarket ring = Check.market("market;stall a 0;stall b 0;stall c 0;stall d 0;"
                + "seller s 0 0 b a at a;seller t 0 0 c b at b;seller u 0 0 a c at c;"
                + "seller v 0 0 a d at d;");
        Check.equal("three", 3, ring.improvingCycleLength(0));
        Check.equal("three for the last", 3, ring.improvingCycleLength(2));
        Check.equal("into a ring but not in it", -1, ring.improvingCycleLength(3));
        Check.equal("no pair", 0, ring.swapPairCount());
        ring.preferFirst(2, 1);
        Check.equal("the shorter one counts", 2, ring.improvingCycleLength(1));
        Check.equal("two for the other", 2, ring.improvingCycleLength(2));
        Check.equal("three remains", 3, ring.improvingCycleLength(0));
        StallMarket eight = Check.market("market;stall a 0;stall b 0;stall c 0;stall d 0;stall e 0;"
                + "stall f 0;stall g 0;stall h 0;seller a 0 0 b at a;seller b 0 0 c at b;"
                + "seller c 0 0 d at c;seller d 0 0 e at d;seller e 0 0 f at e;seller f 0 0 g at f;"
                + "seller g 0 0 h at g;seller h 0 0 a at h;");
        Check.equal("eight", 8, eight.improvingCycleLength(0));
        Check.equal("eight for the last", 8, eight.improvingCycleLength(7));
        eight.vacate(3);
        Check.equal("broken by one without a stall", -1, eight.improvingCycleLength(0));
        Check.equal("and through that one", -1, eight.improvingCycleLength(3));
    }

    private static void freeStalls() {
        StallMarket x = new StallMarket();
        Check.equal("all better ones are occupied", -1, x.betterFreeStall(0));
        Check.equal("the second on the list", 3, x.betterFreeStall(1));
        Check.equal("without a stall", 2, x.betterFreeStall(2));
        x.deposit(1, 100);
        x.assign(1, 3);
        Check.equal("its own stall is not better", -1, x.betterFreeStall(1));
        Check.equal("the freed one", 1, x.betterFreeStall(0));
        x.assign(0, 2);
        Check.equal("from an unacceptable one", 1, x.betterFreeStall(0));
        x.assign(3, 0);
        x.preferFirst(3, 0);
        Check.equal("worse free ones do not count", -1, x.betterFreeStall(3));
        StallMarket y = Check.market("market;stall a 0;stall b 99;seller s 0 0 b;seller t 0 0;");
        Check.equal("money does not matter", 1, y.betterFreeStall(0));
        Check.equal("an empty list", -1, y.betterFreeStall(1));
    }

    private static void efficiency() {
        StallMarket x = new StallMarket();
        Check.equal("at first", false, x.isEfficient());
        x.reallocate();
        Check.equal("after the reallocation", true, x.isEfficient());
        x.vacate(2);
        Check.equal("a better free stall", false, x.isEfficient());
        StallMarket y = Check.market("market;stall a 0;stall b 0;seller s 0 0 a at a;"
                + "seller t 0 0 at b;");
        Check.equal("an unacceptable stall", false, y.isEfficient());
        y.vacate(1);
        Check.equal("no seller wants more", true, y.isEfficient());
        StallMarket ring = Check.market("market;stall a 0;stall b 0;stall c 0;"
                + "seller s 0 0 b a at a;seller t 0 0 c b at b;seller u 0 0 a c at c;");
        Check.equal("a ring without a pair", false, ring.isEfficient());
        StallMarket envious = Check.market("market;stall a 0;seller s 0 0 a at a;seller t 0 0 a;");
        Check.equal("envy alone is efficient", true, envious.isEfficient());
    }

    private static void blocking() {
        StallMarket x = new StallMarket();
        Check.equal("occupies it", 0, x.blockReason(0, 0));
        Check.equal("unacceptable", 1, x.blockReason(0, 2));
        Check.equal("occupied by another", 3, x.blockReason(0, 1));
        Check.equal("too dear", 4, x.blockReason(3, 3));
        Check.equal("nothing", 5, x.blockReason(2, 2));
        x.setRent(3, 9);
        Check.equal("rent as high as the balance", 5, x.blockReason(3, 3));
        x.setRent(3, 10);
        Check.equal("one coin more", 4, x.blockReason(3, 3));
        x.swap(0, 1);
        Check.equal("occupies a better one; another one holds it", 2, x.blockReason(0, 0));
        Check.equal("occupies a better free one", 2, x.blockReason(1, 3));
        Check.equal("occupied before too dear", 3, x.blockReason(3, 0));
        x.removePreference(0, 1);
        Check.equal("occupies an unacceptable one", 0, x.blockReason(0, 1));
        x.removePreference(0, 0);
        Check.equal("unacceptable before occupied", 1, x.blockReason(0, 0));
    }
}
