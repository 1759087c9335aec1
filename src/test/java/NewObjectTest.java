/** Promise 1, and the plain readers of promises 6 to 24 on the new market. */
public final class NewObjectTest {
    public static void main(String[] args) {
        newMarket();
        newObjectHoldsNothingElse();
        readersRefuseWrongIndices();
        positionsAndRanks();
        preferences();
        nameBytes();
        Check.finish("NewObjectTest");
    }

    private static void newMarket() {
        StallMarket x = new StallMarket();
        Check.equal("sellerCount", 4, x.sellerCount());
        Check.equal("stallCount", 4, x.stallCount());
        Check.equal("the market", "day 0 statistics 0 0 0 0; east 5 by 0; west 8 by 1; "
                + "north 0 by -1; south 12 by -1; ann 20 4 list 10; bob 3 6 list 03; "
                + "cid 50 0 list 21; dot 9 9 list 301; places 01-- order 0123 ledger 0",
                Check.marketOf(x));
        Check.equal("freeStallCount", 2, x.freeStallCount());
        x.vacate(0);
        Check.equal("freeStallCount after vacate", 3, x.freeStallCount());
        Check.equal("occupantOf after vacate", -1, x.occupantOf(0));
        Check.equal("stallOf after vacate", -1, x.stallOf(0));
    }

    private static void newObjectHoldsNothingElse() {
        StallMarket x = new StallMarket();
        Check.equal("errorCode", 0, x.errorCode());
        Check.equal("errorPosition", -1, x.errorPosition());
        Check.equal("input length", 0, Check.inputLength(x));
        Check.equal("outputByte", -1, x.outputByte(0));
        Check.equal("undoCount", 0, x.undoCount());
        Check.equal("undo", -1, x.undo());
        Check.equal("findSeller", -1, x.findSeller());
        Check.state("restore", x, () -> x.restore());
        StallMarket y = new StallMarket();
        y.vacate(0);
        Check.equal("another object is untouched", 0, x.stallOf(0));
    }

    private static void readersRefuseWrongIndices() {
        StallMarket x = Check.market("market;stall a 1;stall b 2;stall c 3;seller s 1 1;");
        StallMarket y = Check.market("market;stall a 1;seller s 1 1;seller t 2 2;seller u 3 3;");
        for (int bad : new int[] {-1, 1, 4, 7, 8, 9, Integer.MAX_VALUE, Integer.MIN_VALUE}) {
            Check.index("balance " + bad, x, () -> x.balance(bad));
            Check.index("income " + bad, x, () -> x.income(bad));
            Check.index("stallOf " + bad, x, () -> x.stallOf(bad));
            Check.index("priorityOf " + bad, x, () -> x.priorityOf(bad));
            Check.index("preferenceCount " + bad, x, () -> x.preferenceCount(bad));
            Check.index("preferenceAt " + bad, x, () -> x.preferenceAt(bad, 0));
            Check.index("rankOf seller " + bad, x, () -> x.rankOf(bad, 0));
            Check.index("prefers seller " + bad, x, () -> x.prefers(bad, 0, 0));
            Check.index("sellerNameByte " + bad, x, () -> x.sellerNameByte(bad, 0));
            Check.index("rent " + bad, y, () -> y.rent(bad));
            Check.index("occupantOf " + bad, y, () -> y.occupantOf(bad));
            Check.index("stallNameByte " + bad, y, () -> y.stallNameByte(bad, 0));
            Check.index("rankOf stall " + bad, y, () -> y.rankOf(0, bad));
            if (bad != -1) {
                Check.index("prefers stall " + bad, y, () -> y.prefers(0, bad, 0));
                Check.index("prefers other " + bad, y, () -> y.prefers(0, 0, bad));
            }
        }
        Check.equal("rent of the last stall", 3, x.rent(2));
        Check.equal("balance of the last seller", 3, y.balance(2));
        Check.equal("income of the last seller", 3, y.income(2));
        Check.equal("priority of the last seller", 2, y.priorityOf(2));
    }

    private static void positionsAndRanks() {
        StallMarket x = new StallMarket();
        Check.equal("preferenceCount", 3, x.preferenceCount(3));
        Check.equal("preferenceAt first", 3, x.preferenceAt(3, 0));
        Check.equal("preferenceAt last", 1, x.preferenceAt(3, 2));
        for (int bad : new int[] {-1, 3, 8, 64, Integer.MAX_VALUE, Integer.MIN_VALUE}) {
            Check.index("preferenceAt " + bad, x, () -> x.preferenceAt(3, bad));
        }
        Check.index("preferenceAt of a shorter list", x, () -> x.preferenceAt(0, 2));
        Check.equal("rankOf first", 0, x.rankOf(3, 3));
        Check.equal("rankOf last", 2, x.rankOf(3, 1));
        Check.equal("rankOf none", -1, x.rankOf(3, 2));
        StallMarket y = Check.market("market;stall a 1;seller s 1 1;");
        Check.equal("an empty list", 0, y.preferenceCount(0));
        Check.index("preferenceAt of an empty list", y, () -> y.preferenceAt(0, 0));
    }

    private static void preferences() {
        StallMarket x = new StallMarket();
        Check.equal("earlier on the list", true, x.prefers(0, 1, 0));
        Check.equal("later on the list", false, x.prefers(0, 0, 1));
        Check.equal("the same stall", false, x.prefers(0, 1, 1));
        Check.equal("last on the list to none", true, x.prefers(0, 0, -1));
        Check.equal("none to the list", false, x.prefers(0, -1, 0));
        Check.equal("none to unacceptable", true, x.prefers(0, -1, 2));
        Check.equal("unacceptable to none", false, x.prefers(0, 2, -1));
        Check.equal("the list to unacceptable", true, x.prefers(0, 0, 3));
        Check.equal("unacceptable to the list", false, x.prefers(0, 3, 0));
        Check.equal("two unacceptable ones", false, x.prefers(0, 2, 3));
        Check.equal("two unacceptable ones, turned", false, x.prefers(0, 3, 2));
        Check.equal("none to none", false, x.prefers(0, -1, -1));
        Check.index("prefers -2", x, () -> x.prefers(0, -2, 0));
        Check.index("prefers other -2", x, () -> x.prefers(0, 0, -2));
        Check.index("prefers of no seller", x, () -> x.prefers(4, -1, -1));
        StallMarket full = Check.market("market;stall a 0;stall b 0;stall c 0;stall d 0;stall e 0;"
                + "stall f 0;stall g 0;stall h 0;seller s 0 0 a b c d e f g h;");
        Check.equal("the last of eight to none", true, full.prefers(0, 7, -1));
        Check.equal("none to the last of eight", false, full.prefers(0, -1, 7));
    }

    private static void nameBytes() {
        StallMarket x = Check.market("market;stall abcdef 1;stall z 1;seller zyxwvu 1 1;"
                + "seller a 1 1;");
        Check.equal("six letters", "abcdef", Check.stallName(x, 0));
        Check.equal("one letter", "z", Check.stallName(x, 1));
        Check.equal("six letters of a seller", "zyxwvu", Check.sellerName(x, 0));
        Check.equal("one letter of a seller", "a", Check.sellerName(x, 1));
        for (int bad : new int[] {-1, 6, 7, Integer.MAX_VALUE, Integer.MIN_VALUE}) {
            Check.equal("sellerNameByte at " + bad, -1, x.sellerNameByte(0, bad));
            Check.equal("stallNameByte at " + bad, -1, x.stallNameByte(0, bad));
        }
        Check.equal("sellerNameByte behind one letter", -1, x.sellerNameByte(1, 1));
        Check.equal("stallNameByte behind one letter", -1, x.stallNameByte(1, 1));
    }
}
