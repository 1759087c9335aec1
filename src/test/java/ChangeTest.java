/** Promises 42, 47 to 49 and 51 to 55: the operations on one seller or stall. */
public final class ChangeTest {
    public static void main(String[] args) {
        assigning();
        vacating();
        swapping();
        priorities();
        preferring();
        removing();
        rents();
        deposits();
        Check.finish("ChangeTest");
    }

    private static void expectUndo(String what, StallMarket x, String before) {
        Check.equal(what + ": undo", 0, x.undo());
        Check.equal(what + ": undone", before, Check.marketOf(x));
    }

    private static void assigning() {
        StallMarket x = new StallMarket();
        String before = Check.marketOf(x);
        Check.equal("from a stall to another", 0, x.assign(0, 3));
        Check.equal("places", "31--", Check.places(x));
        Check.equal("the old one is free", -1, x.occupantOf(0));
        Check.equal("nothing is paid", "20 3 50 9", Check.balances(x));
        expectUndo("assign", x, before);
        Check.equal("from none", -1, x.assign(2, 2));
        Check.equal("an unacceptable stall", 2, x.assign(2, 3));
        Check.equal("places", "013-", Check.places(x));
        Check.state("an occupied stall", x, () -> x.assign(3, 3));
        Check.state("its own stall", x, () -> x.assign(2, 3));
        x.vacate(2);
        Check.state("too dear", x, () -> x.assign(3, 3));
        x.deposit(3, 2);
        Check.state("still one coin too dear", x, () -> x.assign(3, 3));
        x.deposit(3, 1);
        Check.equal("just affordable", -1, x.assign(3, 3));
        for (int bad : new int[] {-1, 4, Integer.MAX_VALUE, Integer.MIN_VALUE}) {
            Check.index("assign seller " + bad, x, () -> x.assign(bad, 0));
            Check.index("assign stall " + bad, x, () -> x.assign(0, bad));
        }
        Check.index("a wrong seller before an occupied stall", x, () -> x.assign(9, 0));
    }

    private static void vacating() {
        StallMarket x = new StallMarket();
        String before = Check.marketOf(x);
        Check.equal("vacate", 1, x.vacate(1));
        Check.equal("places", "0---", Check.places(x));
        Check.state("twice", x, () -> x.vacate(1));
        expectUndo("vacate", x, before);
        for (int bad : new int[] {-1, 4, Integer.MAX_VALUE, Integer.MIN_VALUE}) {
            Check.index("vacate " + bad, x, () -> x.vacate(bad));
        }
    }

    private static void swapping() {
        StallMarket x = new StallMarket();
        String before = Check.marketOf(x);
        Check.equal("swap", 0, x.swap(1, 0));
        Check.equal("places", "10--", Check.places(x));
        Check.equal("swapCount", 1, x.swapCount());
        Check.equal("no relocation", 0, x.relocationCount());
        Check.state("back", x, () -> x.swap(1, 0));
        expectUndo("swap", x, before);
        Check.equal("swapCount undone", 0, x.swapCount());
        Check.equal("the other way round", 1, x.swap(0, 1));
        Check.state("with itself", x, () -> x.swap(0, 0));
        Check.state("without a stall", x, () -> x.swap(2, 0));
        Check.state("with one without a stall", x, () -> x.swap(0, 2));
        for (int bad : new int[] {-1, 4, Integer.MAX_VALUE, Integer.MIN_VALUE}) {
            Check.index("swap " + bad, x, () -> x.swap(bad, 0));
            Check.index("swap other " + bad, x, () -> x.swap(0, bad));
            Check.index("swap twice " + bad, x, () -> x.swap(bad, bad));
        }
        x.preferFirst(0, 0);
        x.preferFirst(1, 1);
        Check.equal("a swap command counts", 1, Check.run(x, "swap ann bob;"));
        Check.equal("swapCount", 2, x.swapCount());
        Check.equal("a refused one does not", 0, Check.run(x, "swap ann bob;"));
        Check.equal("swapCount stays", 2, x.swapCount());
    }

    private static void priorities() {
        StallMarket x = new StallMarket();
        String before = Check.marketOf(x);
        Check.equal("to the top", 3, x.setPriority(3, 0));
        Check.equal("the others move down", "1230", Check.order(x));
        expectUndo("setPriority", x, before);
        Check.equal("to the bottom", 0, x.setPriority(0, 3));
        Check.equal("the others move up", "3012", Check.order(x));
        Check.equal("in the middle", 0, x.setPriority(1, 1));
        Check.equal("two change places", "3102", Check.order(x));
        Check.equal("back by two", 2, x.setPriority(3, 0));
        Check.equal("those in between", "3210", Check.order(x));
        Check.equal("to its own position", 2, x.setPriority(1, 2));
        Check.equal("nothing moves", "3210", Check.order(x));
        Check.equal("but it can be undone", 4, x.undoCount());
        for (int bad : new int[] {-1, 4, 8, Integer.MAX_VALUE, Integer.MIN_VALUE}) {
            Check.argument("position " + bad, x, () -> x.setPriority(0, bad));
            Check.index("seller " + bad, x, () -> x.setPriority(bad, 0));
            Check.index("the seller comes first " + bad, x, () -> x.setPriority(bad, bad));
        }
    }

    private static void preferring() {
        StallMarket x = new StallMarket();
        String before = Check.marketOf(x);
        Check.equal("a new stall", 3, x.preferFirst(0, 3));
        Check.equal("the list", "310", Check.list(x, 0));
        expectUndo("preferFirst", x, before);
        Check.equal("the last stall", 3, x.preferFirst(3, 1));
        Check.equal("the list", "130", Check.list(x, 3));
        Check.equal("the middle stall", 3, x.preferFirst(3, 3));
        Check.equal("the list", "310", Check.list(x, 3));
        Check.equal("the first stall", 3, x.preferFirst(3, 3));
        Check.equal("the list", "310", Check.list(x, 3));
        Check.equal("undoCount", 3, x.undoCount());
        Check.equal("a full list", 4, x.preferFirst(3, 2));
        Check.equal("the list", "2310", Check.list(x, 3));
        Check.equal("a full list again", 4, x.preferFirst(3, 0));
        Check.equal("the list", "0231", Check.list(x, 3));
        Check.equal("other lists stay", "10 03 21", Check.list(x, 0) + " " + Check.list(x, 1) + " "
                + Check.list(x, 2));
        for (int bad : new int[] {-1, 4, Integer.MAX_VALUE, Integer.MIN_VALUE}) {
            Check.index("seller " + bad, x, () -> x.preferFirst(bad, 0));
            Check.index("stall " + bad, x, () -> x.preferFirst(0, bad));
        }
        StallMarket y = Check.market("market;stall a 0;stall b 0;stall c 0;stall d 0;stall e 0;"
                + "stall f 0;stall g 0;stall h 0;seller s 0 0;seller t 0 0 a;");
        for (int stall = 0; stall < 8; stall++) {
            Check.equal("grows", stall + 1, y.preferFirst(0, stall));
        }
        Check.equal("eight", "76543210", Check.list(y, 0));
        Check.equal("the last of eight", 8, y.preferFirst(0, 0));
        Check.equal("eight still", "07654321", Check.list(y, 0));
        Check.equal("the next list", "0", Check.list(y, 1));
    }

    private static void removing() {
        StallMarket x = new StallMarket();
        String before = Check.marketOf(x);
        Check.equal("the middle one", 2, x.removePreference(3, 0));
        Check.equal("the list", "31", Check.list(x, 3));
        expectUndo("removePreference", x, before);
        Check.equal("the first one", 2, x.removePreference(3, 3));
        Check.equal("the list", "01", Check.list(x, 3));
        Check.equal("the last one", 1, x.removePreference(3, 1));
        Check.equal("the list", "0", Check.list(x, 3));
        Check.equal("the only one", 0, x.removePreference(3, 0));
        Check.state("not on the list", x, () -> x.removePreference(3, 0));
        Check.state("never on the list", x, () -> x.removePreference(0, 3));
        Check.equal("the occupied stall", 1, x.removePreference(0, 0));
        Check.equal("it stays occupied", 0, x.stallOf(0));
        for (int bad : new int[] {-1, 4, Integer.MAX_VALUE, Integer.MIN_VALUE}) {
            Check.index("seller " + bad, x, () -> x.removePreference(bad, 0));
            Check.index("stall " + bad, x, () -> x.removePreference(3, bad));
        }
    }

    private static void rents() {
        StallMarket x = new StallMarket();
        String before = Check.marketOf(x);
        Check.equal("setRent", 5, x.setRent(0, 99));
        Check.equal("rent", 99, x.rent(0));
        expectUndo("setRent", x, before);
        Check.equal("to nothing", 12, x.setRent(3, 0));
        Check.equal("to the same", 0, x.setRent(3, 0));
        Check.equal("undoCount", 2, x.undoCount());
        for (int bad : new int[] {-1, 100, Integer.MAX_VALUE, Integer.MIN_VALUE}) {
            Check.argument("rent " + bad, x, () -> x.setRent(0, bad));
            Check.index("the stall comes first " + bad, x, () -> x.setRent(4, bad));
            Check.index("stall " + bad, x, () -> x.setRent(bad, 5));
        }
    }

    private static void deposits() {
        StallMarket x = new StallMarket();
        String before = Check.marketOf(x);
        Check.equal("deposit", 1019, x.deposit(0, 999));
        Check.equal("balance", 1019, x.balance(0));
        Check.equal("ledger", 0, x.ledgerDifference());
        expectUndo("deposit", x, before);
        Check.equal("one coin", 4, x.deposit(1, 1));
        for (int bad : new int[] {0, -1, 1000, Integer.MAX_VALUE, Integer.MIN_VALUE}) {
            Check.argument("amount " + bad, x, () -> x.deposit(0, bad));
            Check.index("the seller comes first " + bad, x, () -> x.deposit(4, bad));
        }
        Check.index("seller -1", x, () -> x.deposit(-1, 5));
    }
}
