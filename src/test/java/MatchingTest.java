/** Promises 36, 37, 44 and 45: the largest assignment, its least rank sum, and the two fractions. */
public final class MatchingTest {
    private static final String STALLS8 = "market;stall a 0;stall b 0;stall c 0;stall d 0;stall e 0;"
            + "stall f 0;stall g 0;stall h 0;";

    public static void main(String[] args) {
        expect("market;stall a 0;seller s 0 0;", 0, 0);
        expect("market;stall a 0;seller s 0 0 a;", 1, 0);
        expect("market;stall a 0;seller s 0 0 a;seller t 0 0 a;", 1, 0);
        expect("market;stall a 0;stall b 0;seller s 0 0 a b;seller t 0 0 a;", 2, 1);
        expect("market;stall a 0;stall b 0;seller s 0 0 b a;seller t 0 0 a b;", 2, 0);
        // Size comes before the sum: one seller alone would have 0.
        expect("market;stall a 0;stall b 0;stall c 0;seller s 0 0 a b c;seller t 0 0 a b;"
                + "seller u 0 0 a;", 3, 3);
        // The last seller may displace an earlier one, and be left out itself.
        expect("market;stall a 0;stall b 0;stall c 0;seller s 0 0 a b;seller t 0 0 c b a;"
                + "seller u 0 0 b;seller v 0 0 b a;", 3, 0);
        expect(STALLS8 + "seller a 0 0 a b c d e f g h;seller b 0 0 a b c d e f g h;"
                + "seller c 0 0 a b c d e f g h;seller d 0 0 a b c d e f g h;"
                + "seller e 0 0 a b c d e f g h;seller f 0 0 a b c d e f g h;"
                + "seller g 0 0 a b c d e f g h;seller h 0 0 a b c d e f g h;", 8, 28);
        expect(STALLS8 + "seller a 0 0 h;seller b 0 0 g h;seller c 0 0 f g h;seller d 0 0 h g f e;"
                + "seller e 0 0 h;", 4, 3);
        // The same size with other stalls: the least sum counts, in whatever order they come.
        expect("market;stall a 0;stall b 0;seller s 0 0 b a;", 1, 0);
        expect("market;stall a 0;stall b 0;stall c 0;seller s 0 0 c b a;seller t 0 0 c a;", 2, 1);
        occupationDoesNotMatter();
        eachCallLooksAtTheMarketAsItIs();
        meanRanks();
        fractions();
        Check.finish("MatchingTest");
    }

    private static void expect(String setup, int size, int sum) {
        StallMarket x = Check.market(setup);
        String before = Check.stateOf(x);
        Check.equal("maximumMatchingSize of " + setup, size, x.maximumMatchingSize());
        Check.equal("leastRankSum of " + setup, sum, x.leastRankSum());
        Check.equal("nothing changes", before, Check.stateOf(x));
    }

    private static void occupationDoesNotMatter() {
        StallMarket x = new StallMarket();
        Check.equal("leastRankSum alone", 0, x.leastRankSum());
        Check.equal("maximumMatchingSize", 4, x.maximumMatchingSize());
        x.removePreference(2, 2);
        x.removePreference(2, 1);
        Check.equal("one list empty", 3, x.maximumMatchingSize());
        x.preferFirst(3, 2);
        Check.equal("three first wishes", 0, x.leastRankSum());
        x.preferFirst(2, 1);
        Check.equal("cid takes west from ann", 4, x.maximumMatchingSize());
        Check.equal("ann east, bob south, cid west, dot north", 2, x.leastRankSum());
    }

    private static void eachCallLooksAtTheMarketAsItIs() {
        StallMarket x = Check.market("market;stall a 0;stall b 0;seller s 0 0 a b;"
                + "seller t 0 0 a b;");
        Check.equal("leastRankSum as the first call", 1, x.leastRankSum());
        x.removePreference(0, 0);
        Check.equal("s has b alone", 0, x.leastRankSum());
        x.removePreference(1, 0);
        Check.equal("both have b alone", 1, x.maximumMatchingSize());
        x.preferFirst(1, 0);
        x.preferFirst(0, 0);
        Check.equal("a sum again", 1, x.leastRankSum());
        Check.load(x, "market;stall a 0;seller s 0 0;");
        Check.equal("no sum without a stall", 0, x.leastRankSum());
        Check.equal("no size", 0, x.maximumMatchingSize());
    }

    private static void meanRanks() {
        StallMarket x = new StallMarket();
        Check.equal("ann at position 1, bob off the list", 1.0, x.meanRank());
        x.deposit(1, 100);
        x.assign(1, 3);
        x.assign(3, 1);
        Check.equal("1, 1 and 2", 4.0 / 3.0, x.meanRank());
        x.assign(2, 2);
        Check.equal("with a first one", 1.0, x.meanRank());
        x.removePreference(0, 0);
        Check.equal("an unacceptable stall is left out", 1.0, x.meanRank());
        StallMarket none = Check.market("market;stall a 0;seller s 0 0 at a;seller t 0 0 a;");
        Check.equal("none acceptable", 0.0, none.meanRank());
        none.vacate(0);
        Check.equal("none occupied", 0.0, none.meanRank());
    }

    private static void fractions() {
        StallMarket x = new StallMarket();
        Check.equal("two of four", 0.5f, x.placedFraction());
        x.assign(2, 2);
        Check.equal("three of four", 0.75f, x.placedFraction());
        StallMarket y = Check.market("market;stall a 0;seller s 0 0 at a;seller t 0 0;seller u 0 0;");
        Check.equal("one of three", 1.0f / 3.0f, y.placedFraction());
        y.vacate(0);
        Check.equal("none", 0.0f, y.placedFraction());
    }
}
