/** The edges of promises 47 to 63 and of "Undo and exceptions": one method a sentence or a promise. */
public final class ChangeEdgesTest {
    private static final String ALL = "abcdefgh";
    private static final String[] EIGHT = {ALL, ALL, ALL, ALL, ALL, ALL, ALL, ALL};

    private interface Operation {
        void on(StallMarket x);
    }

    public static void main(String[] args) {
        assigningFromTheFirstToTheLast();
        assigningForTheLastCoin();
        vacatingAll();
        swappingTheFirstAndTheLast();
        reallocatingNobodyAndAll();
        everyPriorityToEveryPosition();
        preferringOnEmptyAndFullLists();
        removingFromFullToEmptyLists();
        rentsFromNothingToTheGreatest();
        depositsFromOneCoinToTheGreatest();
        daysFromOneToTheLast();
        outputsFromEmptyToTheLongest();
        whatChangesNothingIsAnOperation();
        eachOperationIsUndone();
        undoStepsFromNoneToEight();
        undoKeepsWhatIsNotTheMarket();
        savedCopiesAreReplacedAndRemain();
        scriptsStopAtTheirEdges();
        nothingIsLeftOfALongerScript();
        theLastOfFiveHundredTwelveCalls();
        Check.finish("ChangeEdgesTest");
    }

    private static StallMarket market(int stalls, String places, String... lists) {
        return Check.market(Check.setup(stalls, lists, places));
    }

    private static void assigningFromTheFirstToTheLast() {
        for (int seller = 0; seller < 8; seller += 7) {
            StallMarket x = market(8, "", EIGHT);
            int before = -1;
            for (int stall : new int[] {0, 7, 3, 0}) {
                Check.equal("the stall before", before, x.assign(seller, stall));
                Check.equal("stallOf", stall, x.stallOf(seller));
                Check.equal("occupantOf", seller, x.occupantOf(stall));
                Check.equal("only this one is occupied", 7, x.freeStallCount());
                before = stall;
            }
        }
        StallMarket unwanted = market(1, "", "");
        Check.equal("a stall off the list", -1, unwanted.assign(0, 0));
    }

    private static void assigningForTheLastCoin() {
        for (int rent : new int[] {0, 1, 99}) {
            for (int balance : new int[] {0, 1, 98, 99, 100}) {
                StallMarket x = Check.market("market;stall a " + rent + ";seller s " + balance
                        + " 99;");
                Object got;
                try {
                    got = x.assign(0, 0);
                } catch (IllegalStateException e) {
                    got = "refused";
                }
                Object want = rent <= balance ? (Object) (-1) : "refused";
                Check.equal("rent " + rent + ", balance " + balance, want, got);
                Check.equal("nothing is paid", balance, x.balance(0));
                Check.equal("undoCount", rent <= balance ? 1 : 0, x.undoCount());
            }
        }
    }

    private static void vacatingAll() {
        StallMarket x = market(8, "hgfedcba", EIGHT);
        for (int seller = 0; seller < 8; seller++) {
            Check.equal("vacate", 7 - seller, x.vacate(seller));
            Check.equal("freeStallCount", seller + 1, x.freeStallCount());
            int gone = seller;
            Check.state("no stall any more", x, () -> x.vacate(gone));
        }
        Check.equal("all are free", "--------", Check.places(x));
    }

    private static void swappingTheFirstAndTheLast() {
        StallMarket x = market(8, ALL, "h", "b", "c", "d", "e", "f", "g", "a");
        Check.equal("the first with the last", 7, x.swap(0, 7));
        Check.equal("places", "71234560", Check.places(x));
        Check.equal("swapCount", 1, x.swapCount());
        StallMarket y = market(8, ALL, "h", "b", "c", "d", "e", "f", "g", "a");
        Check.equal("the last with the first", 0, y.swap(7, 0));
        Check.equal("the same places", Check.marketOf(x), Check.marketOf(y));
    }

    private static void reallocatingNobodyAndAll() {
        StallMarket none = market(8, "", "", "", "", "", "", "", "", "");
        Check.equal("nobody", 0, none.reallocate());
        Check.equal("it is an operation", 1, none.undoCount());
        StallMarket all = market(8, "", EIGHT);
        Check.equal("all get their first one", 8, all.reallocate());
        Check.equal("counted", 8, all.relocationCount());
        StallMarket left = market(8, ALL, "", "", "", "", "", "", "", "");
        Check.equal("all leave", 8, left.reallocate());
        Check.equal("not counted", 0, left.relocationCount());
        Check.equal("all are free", 8, left.freeStallCount());
        Check.equal("undo", 0, left.undo());
        Check.equal("all are back", "01234567", Check.places(left));
    }

    private static void everyPriorityToEveryPosition() {
        for (int sellers = 1; sellers <= 8; sellers++) {
            String[] lists = java.util.Arrays.copyOf(EIGHT, sellers);
            StallMarket x = market(8, "", lists);
            java.util.List<Integer> order = new java.util.ArrayList<>();
            for (int seller = 0; seller < sellers; seller++) {
                order.add(seller);
            }
            for (int seller = 0; seller < sellers; seller++) {
                for (int position = 0; position < sellers; position++) {
                    Check.equal("the position before", order.indexOf(seller),
                            x.setPriority(seller, position));
                    order.remove(Integer.valueOf(seller));
                    order.add(position, seller);
                    for (int other = 0; other < sellers; other++) {
                        Check.equal("priorityOf", order.indexOf(other), x.priorityOf(other));
                    }
                }
            }
        }
    }

    private static void preferringOnEmptyAndFullLists() {
        StallMarket x = market(8, "", "", "a");
        String want = "";
        for (int stall : new int[] {0, 7, 3, 1, 2, 4, 5, 6}) {
            want = stall + want;
            Check.equal("the length", want.length(), x.preferFirst(0, stall));
            Check.equal("the list", want, Check.list(x, 0));
        }
        for (int stall : new int[] {6, 0, 7, 3}) {
            want = stall + want.replace(String.valueOf(stall), "");
            Check.equal("a full list stays as long", 8, x.preferFirst(0, stall));
            Check.equal("the list", want, Check.list(x, 0));
        }
        Check.equal("the next list stays", "0", Check.list(x, 1));
        StallMarket one = market(1, "", "");
        Check.equal("one stall", 1, one.preferFirst(0, 0));
        Check.equal("the same again", 1, one.preferFirst(0, 0));
    }

    private static void removingFromFullToEmptyLists() {
        StallMarket x = market(8, "", ALL, "ba");
        String want = "01234567";
        for (int stall : new int[] {7, 0, 3, 1, 6, 2, 5, 4}) {
            want = want.replace(String.valueOf(stall), "");
            Check.equal("the length", want.length(), x.removePreference(0, stall));
            Check.equal("the list", want, Check.list(x, 0));
            Check.equal("it is unacceptable now", -1, x.rankOf(0, stall));
        }
        Check.equal("the next list stays", "10", Check.list(x, 1));
        Check.equal("and begins anew", 1, x.preferFirst(0, 7));
    }

    private static void rentsFromNothingToTheGreatest() {
        StallMarket x = market(8, "", "");
        Check.equal("to the greatest", 0, x.setRent(7, 99));
        Check.equal("the greatest", 99, x.rent(7));
        Check.equal("to nothing", 99, x.setRent(7, 0));
        Check.equal("nothing", 0, x.rent(7));
        Check.equal("of the first", 0, x.setRent(0, 1));
        Check.equal("one coin", 1, x.setRent(0, 98));
        Check.equal("98", 98, x.setRent(0, 98));
        Check.equal("the others stay", 0, x.rent(1));
    }

    private static void depositsFromOneCoinToTheGreatest() {
        StallMarket x = Check.market("market;stall a 0;seller s 9999 0;seller t 0 0;");
        Check.equal("beyond the greatest balance of a setup", 10998, x.deposit(0, 999));
        Check.equal("one coin", 1, x.deposit(1, 1));
        Check.equal("two", 2, x.deposit(1, 1));
        for (int i = 1; i <= 100; i++) {
            Check.equal("the greatest again and again", 10998 + 999 * i, x.deposit(0, 999));
        }
        Check.equal("ledger", 0, x.ledgerDifference());
    }

    private static void daysFromOneToTheLast() {
        StallMarket x = Check.market("market;stall a 1;seller s 99 0 at a;");
        Check.equal("one day", 0, x.advanceDays(1));
        Check.equal("the other 98 coins", 0, x.advanceDays(98));
        Check.equal("the balance", 0, x.balance(0));
        Check.equal("evicted by the next", 1, x.advanceDays(1));
        Check.equal("once", 0, x.advanceDays(99));
        Check.equal("day", 199, x.day());
        for (int i = 0; i < 98; i++) {
            x.advanceDays(99);
        }
        Check.equal("the day before the last 98", 9901, x.day());
        Check.state("99 days", x, () -> x.advanceDays(99));
        Check.equal("98 days", 0, x.advanceDays(98));
        Check.equal("the last day", 9999, x.day());
        Check.state("one more", x, () -> x.advanceDays(1));
        Check.equal("no script goes on", 1, Check.run(x, "deposit s 5;days 1;deposit s 5;"));
        Check.equal("the day stays", 9999, x.day());
        Check.equal("what came before stays", 5, x.balance(0));
        Check.equal("forecasts go on", 5, x.balanceAfter(0, 400));
    }

    private static void outputsFromEmptyToTheLongest() {
        StallMarket one = Check.market("market;stall z 0;seller s 0 0;");
        Check.equal("no text yet", -1, one.outputByte(0));
        Check.equal("the shortest assignment", 3, one.writeAssignment());
        Check.equal("its text", "s:-", Check.output(one));
        Check.equal("its first byte", (int) 's', one.outputByte(0));
        Check.equal("its last byte", (int) '-', one.outputByte(2));
        Check.equal("behind it", -1, one.outputByte(3));
        Check.equal("before it", -1, one.outputByte(-1));
        Check.equal("an empty list", 0, one.writePreferences(0));
        Check.equal("the text is gone", -1, one.outputByte(0));
        one.preferFirst(0, 0);
        Check.equal("a list of one", 1, one.writePreferences(0));
        Check.equal("its text", "z", Check.output(one));
        Check.equal("of the first before it", -1, one.outputByte(1));
        StallMarket x = market(8, "hgfedcba", EIGHT);
        Check.equal("eight of each", 31, x.writeAssignment());
        Check.equal("its text", "a:h b:g c:f d:e e:d f:c g:b h:a", Check.output(x));
        Check.equal("a full list", 15, x.writePreferences(7));
        Check.equal("its text", "a>b>c>d>e>f>g>h", Check.output(x));
        Check.equal("no operations", 0, x.undoCount());
    }

    private static void whatChangesNothingIsAnOperation() {
        unchanged("reallocate", StallMarket::reallocate);
        unchanged("setPriority", x -> x.setPriority(1, 1));
        unchanged("preferFirst", x -> x.preferFirst(1, 1));
        unchanged("setRent", x -> x.setRent(1, 0));
        unchanged("an empty script", StallMarket::runScript);
        unchanged("a script that stops at once", x -> Check.run(x, "vacate c;"));
        unchanged("a script of such commands", x -> Check.run(x, "rent a 0;reallocate;prefer a a;"));
    }

    private static void unchanged(String what, Operation operation) {
        StallMarket x = market(2, "ab", "a", "b", "");
        String before = Check.marketOf(x);
        x.deposit(0, 7);
        String after = Check.marketOf(x);
        operation.on(x);
        Check.equal(what + " changes nothing", after, Check.marketOf(x));
        Check.equal(what + " counts", 2, x.undoCount());
        Check.equal(what + " is undone", 1, x.undo());
        Check.equal(what + " changed nothing", after, Check.marketOf(x));
        Check.equal("the deposit is undone", 0, x.undo());
        Check.equal("the market before it", before, Check.marketOf(x));
    }

    private static void eachOperationIsUndone() {
        undone("assign", x -> x.assign(2, 2));
        undone("vacate", x -> x.vacate(0));
        undone("swap", x -> x.swap(0, 1));
        undone("reallocate", StallMarket::reallocate);
        undone("setPriority", x -> x.setPriority(3, 0));
        undone("preferFirst", x -> x.preferFirst(0, 3));
        undone("removePreference", x -> x.removePreference(3, 0));
        undone("setRent", x -> x.setRent(3, 99));
        undone("deposit", x -> x.deposit(3, 999));
        undone("advanceDays", x -> x.advanceDays(99));
        undone("runScript", x -> Check.run(x, "swap ann bob;vacate ann;days 20;prefer cid east;"
                + "reallocate;deposit dot 9;rent west 0;remove bob south;assign dot east;"));
    }

    private static void undone(String what, Operation operation) {
        StallMarket x = new StallMarket();
        x.advanceDays(1);
        String before = Check.marketOf(x);
        operation.on(x);
        String after = Check.marketOf(x);
        Check.equal(what + " changes the market", false, before.equals(after));
        Check.equal(what + " counts once", 2, x.undoCount());
        Check.equal(what + " is undone", 1, x.undo());
        Check.equal("the market before " + what, before, Check.marketOf(x));
        operation.on(x);
        Check.equal(what + " again", after, Check.marketOf(x));
        Check.equal(what + " takes the step again", 2, x.undoCount());
    }

    private static void undoStepsFromNoneToEight() {
        StallMarket x = new StallMarket();
        Check.equal("none", -1, x.undo());
        Check.equal("none still", -1, x.undo());
        Check.equal("none counted", 0, x.undoCount());
        for (int step = 1; step <= 30; step++) {
            x.deposit(0, 1);
            Check.equal("after " + step, Math.min(step, 8), x.undoCount());
        }
        for (int left = 7; left >= 0; left--) {
            Check.equal("undo", left, x.undo());
            Check.equal("undoCount", left, x.undoCount());
            Check.equal("balance", 20 + 30 - 8 + left, x.balance(0));
        }
        Check.equal("the ninth is not undone", -1, x.undo());
        Check.equal("nothing changes", 42, x.balance(0));
        for (int filled = 0; filled <= 9; filled++) {
            StallMarket y = new StallMarket();
            for (int step = 0; step < filled; step++) {
                y.deposit(0, 1);
            }
            int kept = Math.min(filled, 8);
            for (int undone = 0; undone < Math.min(3, kept); undone++) {
                y.undo();
            }
            int left = Math.max(0, kept - 3);
            Check.equal("left of " + filled, left, y.undoCount());
            y.setRent(0, 77);
            Check.equal("a new step", left + 1, y.undoCount());
            Check.equal("is the first to be undone", left, y.undo());
            Check.equal("it is undone", 5, y.rent(0));
            Check.equal("no more than it", 20 + filled - Math.min(3, kept), y.balance(0));
        }
    }

    private static void undoKeepsWhatIsNotTheMarket() {
        StallMarket x = new StallMarket();
        x.swap(0, 1);
        x.writeAssignment();
        x.save();
        String saved = Check.marketOf(x);
        Check.run(x, "days 100;");
        Check.put(x, "dot");
        x.setRent(0, 50);
        x.undo();
        x.undo();
        Check.equal("nothing is left", -1, x.undo());
        Check.equal("the input", 3, x.findSeller());
        Check.equal("the error code", 2, x.errorCode());
        Check.equal("the error position", 5, x.errorPosition());
        Check.equal("the output", "ann:west bob:east cid:- dot:-", Check.output(x));
        Check.equal("the statistics are undone", "0 0 0 0", Check.statistics(x));
        x.restore();
        Check.equal("the saved copy", saved, Check.marketOf(x));
        Check.equal("the input after restore", 3, x.findSeller());
        Check.equal("the error code after restore", 2, x.errorCode());
        Check.equal("the output after restore", "ann:west bob:east cid:- dot:-", Check.output(x));
    }

    private static void savedCopiesAreReplacedAndRemain() {
        StallMarket x = new StallMarket();
        Check.equal("the day of a new market", 0, x.save());
        Check.equal("no operation", 0, x.undoCount());
        x.advanceDays(7);
        Check.equal("restored", 0, x.restore());
        Check.equal("its day", 0, x.day());
        Check.equal("no step is left", 0, x.undoCount());
        Check.equal("none to undo", -1, x.undo());
        x.advanceDays(99);
        Check.equal("the later day", 99, x.save());
        Check.equal("the step is left", 1, x.undoCount());
        Check.equal("and is undone", 0, x.undo());
        Check.equal("to the day", 0, x.day());
        for (int again = 0; again < 3; again++) {
            Check.equal("the later copy remains", 99, x.restore());
            x.preferFirst(2, 0);
            x.setPriority(3, 0);
            Check.load(x, "market;stall a 1;seller s 1 1;");
        }
        Check.equal("over another setup", 99, x.restore());
        Check.equal("its sellers", 4, x.sellerCount());
        Check.equal("its order", "0123", Check.order(x));
        Check.equal("its lists", "21", Check.list(x, 2));
    }

    private static void scriptsStopAtTheirEdges() {
        stops("assign dot south;", 0);
        stops("deposit dot 2;assign dot south;", 1);
        stops("deposit dot 3;assign dot south;", 2);
        stops("rent north 99;assign cid north;", 1);
        stops("rent north 50;assign cid north;", 2);
        stops("rent north 51;assign cid north;", 1);
        stops("assign cid east;", 0);
        stops("vacate ann;assign cid east;", 2);
        stops("vacate cid;", 0);
        stops("swap ann cid;", 0);
        stops("swap ann ann;", 0);
        stops("swap ann bob;swap ann bob;", 1);
        stops("remove ann south;", 0);
        stops("prefer ann south;remove ann south;", 2);
        stops("remove ann east;remove ann west;remove ann east;", 2);
        stops("reallocate;reallocate;reallocate;", 3);
    }

    /** The command that stops a script and the one behind it leave no trace. */
    private static void stops(String script, int executed) {
        StallMarket x = new StallMarket();
        StallMarket y = new StallMarket();
        String rest = "deposit cid 9;";
        int all = script.split(";").length;
        Check.equal(script + rest, executed == all ? all + 1 : executed, Check.run(x, script + rest));
        StringBuilder part = new StringBuilder();
        for (int i = 0; i < executed; i++) {
            part.append(script.split(";")[i]).append(';');
        }
        Check.run(y, executed == all ? script + rest : part.toString());
        Check.equal("the market after " + script + rest, Check.marketOf(y), Check.marketOf(x));
        Check.equal("one operation", 1, x.undoCount());
        x.undo();
        Check.equal("undone", Check.marketOf(new StallMarket()), Check.marketOf(x));
    }

    private static void nothingIsLeftOfALongerScript() {
        StallMarket x = new StallMarket();
        for (int commands = 20; commands >= 0; commands--) {
            int before = x.balance(0);
            Check.equal("commands", commands, Check.run(x, "deposit ann 1;".repeat(commands)));
            Check.equal("no more than these", before + commands, x.balance(0));
        }
        Check.equal("an error in a third command", -1, Check.run(x, "days 1;vacate ann;days 0;"));
        Check.equal("an empty script behind it", 0, Check.run(x, ""));
        Check.equal("no day", 0, x.day());
        Check.equal("no command", 0, x.stallOf(0));
    }

    private static void theLastOfFiveHundredTwelveCalls() {
        StallMarket x = Check.market("market;stall a 0;seller s 0 0 a at a;");
        int calls = 6;
        for (int i = 0; calls < 511; i++) {
            Check.equal("deposit", i + 1, x.deposit(0, 1));
            calls++;
        }
        Check.equal("the 512th call", 7, x.undo());
    }
}
