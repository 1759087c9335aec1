/** Promises 60 to 63: undo, save and restore. */
public final class UndoTest {
    public static void main(String[] args) {
        goesBackStepByStep();
        forgetsTheOldest();
        refusedCallsAreNotRecorded();
        keepsWhatIsNotTheMarket();
        savesAndRestores();
        restoresOverAnotherSetup();
        Check.finish("UndoTest");
    }

    private static void change(StallMarket x, int step) {
        switch (step % 7) {
            case 0:
                x.swap(0, 1);
                break;
            case 1:
                x.advanceDays(3);
                break;
            case 2:
                x.setPriority(3, 1);
                break;
            case 3:
                x.reallocate();
                break;
            case 4:
                x.preferFirst(2, 0);
                break;
            case 5:
                x.setRent(2, 17);
                break;
            default:
                x.deposit(3, 100);
                break;
        }
    }

    private static void goesBackStepByStep() {
        StallMarket x = new StallMarket();
        String[] before = new String[7];
        for (int step = 0; step < 7; step++) {
            before[step] = Check.marketOf(x);
            change(x, step);
            Check.equal("undoCount", step + 1, x.undoCount());
        }
        for (int step = 6; step >= 0; step--) {
            Check.equal("undo " + step, step, x.undo());
            Check.equal("the market before " + step, before[step], Check.marketOf(x));
            Check.equal("undoCount after it", step, x.undoCount());
        }
        Check.equal("no more", -1, x.undo());
        Check.equal("nothing changes", before[0], Check.marketOf(x));
        Check.equal("undoCount", 0, x.undoCount());
    }

    private static void forgetsTheOldest() {
        for (int steps = 8; steps <= 26; steps++) {
            StallMarket x = new StallMarket();
            for (int step = 1; step <= steps; step++) {
                x.deposit(0, step);
            }
            Check.equal("undoCount", 8, x.undoCount());
            for (int undone = 1; undone <= 8; undone++) {
                Check.equal("undo", 8 - undone, x.undo());
                int left = steps - undone;
                Check.equal("balance", 20 + left * (left + 1) / 2, x.balance(0));
            }
            Check.equal("no more", -1, x.undo());
            x.deposit(0, 7);
            Check.equal("one again", 1, x.undoCount());
            Check.equal("undone", 0, x.undo());
        }
        StallMarket x = new StallMarket();
        for (int step = 1; step <= 10; step++) {
            x.setRent(0, step);
        }
        x.undo();
        x.undo();
        x.setRent(0, 50);
        Check.equal("after two undone and one new", 7, x.undoCount());
        Check.equal("undo", 6, x.undo());
        Check.equal("rent", 8, x.rent(0));
        Check.equal("undo", 5, x.undo());
        Check.equal("rent", 7, x.rent(0));
    }

    private static void refusedCallsAreNotRecorded() {
        StallMarket x = new StallMarket();
        x.deposit(0, 1);
        Check.state("assign", x, () -> x.assign(0, 1));
        Check.state("vacate", x, () -> x.vacate(2));
        Check.state("swap", x, () -> x.swap(0, 2));
        Check.argument("deposit", x, () -> x.deposit(0, 0));
        x.allocatedStall(0);
        x.allocatedIfFirst(3);
        x.balanceAfter(0, 400);
        x.writeAssignment();
        x.save();
        Check.equal("undoCount", 1, x.undoCount());
        Check.equal("undo", 0, x.undo());
        Check.equal("balance", 20, x.balance(0));
    }

    private static void keepsWhatIsNotTheMarket() {
        StallMarket x = new StallMarket();
        x.setRent(0, 9);
        Check.put(x, "vacate nobody;");
        x.runScript();
        x.save();
        x.writePreferences(1);
        Check.put(x, "cid");
        x.undo();
        Check.equal("rent", 5, x.rent(0));
        Check.equal("the buffer", 2, x.findSeller());
        Check.equal("the error", 3, x.errorCode());
        Check.equal("the position", 7, x.errorPosition());
        Check.equal("the output", "east>south", Check.output(x));
        x.restore();
        Check.equal("the saved copy", 9, x.rent(0));
    }

    private static void savesAndRestores() {
        StallMarket x = new StallMarket();
        Check.state("nothing saved", x, () -> x.restore());
        x.advanceDays(1);
        x.reallocate();
        Check.equal("save", 1, x.save());
        Check.equal("undoCount after save", 2, x.undoCount());
        String saved = Check.marketOf(x);
        x.advanceDays(5);
        x.setPriority(2, 0);
        x.removePreference(0, 0);
        Check.put(x, "bob");
        x.writePreferences(2);
        Check.equal("restore", 1, x.restore());
        Check.equal("the market", saved, Check.marketOf(x));
        Check.equal("undoCount", 0, x.undoCount());
        Check.equal("undo", -1, x.undo());
        Check.equal("the buffer", 1, x.findSeller());
        Check.equal("the output", "north>west", Check.output(x));
        x.vacate(0);
        x.deposit(1, 5);
        Check.equal("again", 1, x.restore());
        Check.equal("the copy is its own", saved, Check.marketOf(x));
        x.advanceDays(6);
        Check.equal("a later copy replaces it", 7, x.save());
        String later = Check.marketOf(x);
        x.vacate(2);
        x.undo();
        x.advanceDays(6);
        Check.equal("the later copy", 7, x.restore());
        Check.equal("the later market", later, Check.marketOf(x));
    }

    private static void restoresOverAnotherSetup() {
        StallMarket x = new StallMarket();
        x.swap(0, 1);
        x.advanceDays(2);
        x.save();
        String saved = Check.marketOf(x);
        Check.load(x, "market;stall a 1;seller s 2 3 a at a;");
        x.deposit(0, 5);
        Check.equal("restore", 2, x.restore());
        Check.equal("names, incomes and statistics too", saved, Check.marketOf(x));
        Check.equal("undoCount", 0, x.undoCount());
        Check.equal("a script knows the restored names", 1, Check.run(x, "deposit dot 5;"));
        Check.equal("and the old ones no more", -1, Check.run(x, "deposit s 5;"));
    }
}
