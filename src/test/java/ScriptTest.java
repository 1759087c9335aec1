/** Promises 5, 6 and 7: the grammar of scripts, its errors, and the execution. */
public final class ScriptTest {
    private static final String FIVE = "rent a 1;rent a 2;rent a 3;rent a 4;rent a 5;";
    private static final String TWENTY = FIVE + FIVE + FIVE + FIVE;

    public static void main(String[] args) {
        eachCommandCallsItsMethod();
        stopsBeforeARefusedCommand();
        emptyScripts();
        isOneUndoableOperation();
        reportsErrors();
        reportsTooMany();
        anErrorChangesNothingElse();
        Check.finish("ScriptTest");
    }

    private static StallMarket small() {
        return Check.market("market;stall a 1;stall b 2;"
                + "seller s 1 1 b a at a;seller t 1 1 a b at b;seller at 5 5 a;");
    }

    private static void expectError(int code, String marked) {
        StallMarket x = small();
        Check.put(x, marked.replace("#", ""));
        Check.equal("runScript of " + marked, -1, x.runScript());
        Check.equal("errorCode of " + marked, code, x.errorCode());
        Check.equal("errorPosition of " + marked, marked.indexOf('#'), x.errorPosition());
        Check.equal("the buffer after " + marked, 0, Check.inputLength(x));
        Check.equal("undoCount after " + marked, 0, x.undoCount());
    }

    private static void expectSame(String script, StallMarket want) {
        StallMarket x = new StallMarket();
        Check.equal("runScript of " + script, 1, Check.run(x, script));
        Check.equal("the market after " + script, Check.marketOf(want), Check.marketOf(x));
        Check.equal("undoCount after " + script, 1, x.undoCount());
        x.undo();
        Check.equal("undo of " + script, Check.marketOf(new StallMarket()), Check.marketOf(x));
    }

    private static void eachCommandCallsItsMethod() {
        StallMarket x = new StallMarket();
        x.assign(3, 2);
        expectSame("assign dot north;", x);
        StallMarket vacated = new StallMarket();
        vacated.vacate(1);
        expectSame("vacate bob;", vacated);
        StallMarket swapped = new StallMarket();
        swapped.swap(0, 1);
        expectSame("swap ann bob;", swapped);
        StallMarket reallocated = new StallMarket();
        reallocated.reallocate();
        expectSame("reallocate;", reallocated);
        StallMarket preferred = new StallMarket();
        preferred.preferFirst(0, 3);
        expectSame("prefer ann south;", preferred);
        StallMarket removed = new StallMarket();
        removed.removePreference(3, 0);
        expectSame("remove dot east;", removed);
        StallMarket rented = new StallMarket();
        rented.setRent(1, 99);
        expectSame("rent west 99;", rented);
        StallMarket paid = new StallMarket();
        paid.deposit(2, 999);
        expectSame("deposit cid 999;", paid);
        StallMarket aged = new StallMarket();
        aged.advanceDays(99);
        expectSame("days 99;", aged);
        expectSame(" days  0099 ; ", aged);
        expectSame("days99;", aged);
    }

    private static void expectStop(String script, int executed, String sameAs) {
        StallMarket x = new StallMarket();
        StallMarket y = new StallMarket();
        Check.equal("runScript of " + script, executed, Check.run(x, script));
        Check.equal("errorCode of " + script, 0, x.errorCode());
        Check.equal("errorPosition of " + script, -1, x.errorPosition());
        Check.equal("runScript of " + sameAs, executed, Check.run(y, sameAs));
        Check.equal("the market of " + script, Check.marketOf(y), Check.marketOf(x));
        Check.equal("undoCount after " + script, 1, x.undoCount());
    }

    private static void stopsBeforeARefusedCommand() {
        expectStop("rent east 7;assign cid east;rent east 8;", 1, "rent east 7;");
        expectStop("assign dot south;rent east 8;", 0, "");
        expectStop("deposit dot 3;assign dot south;rent east 8;", 3,
                "deposit dot 3;assign dot south;rent east 8;");
        expectStop("assign ann east;rent east 8;", 0, "");
        expectStop("vacate cid;rent east 8;", 0, "");
        expectStop("vacate ann;vacate ann;rent east 8;", 1, "vacate ann;");
        expectStop("swap ann ann;rent east 8;", 0, "");
        expectStop("swap bob ann;swap ann bob;rent east 8;", 1, "swap ann bob;");
        expectStop("swap ann cid;", 0, "");
        expectStop("remove ann north;rent east 8;", 0, "");
        expectStop("remove ann west;remove ann west;rent east 8;", 1, "remove ann west;");
        StallMarket x = new StallMarket();
        String fifteen = "days 99;days 99;days 99;days 99;days 99;days 99;days 99;days 99;days 99;"
                + "days 99;days 99;days 99;days 99;days 99;days 99;";
        for (int i = 0; i < 6; i++) {
            Check.equal("days", 15, Check.run(x, fifteen));
        }
        Check.equal("to the last day", 11, Check.run(x, fifteen));
        Check.equal("the last day", 9999, x.day());
        Check.equal("no day more", 0, Check.run(x, "days 1;rent east 8;"));
        Check.equal("the rent stays", 5, x.rent(0));
        Check.equal("undoCount", 8, x.undoCount());
        Check.equal("the ledger", 0, x.ledgerDifference());
    }

    private static void emptyScripts() {
        StallMarket x = new StallMarket();
        Check.put(x, "?");
        x.loadSetup();
        Check.equal("an empty buffer", 0, x.runScript());
        Check.equal("its errorCode", 0, x.errorCode());
        Check.equal("its errorPosition", -1, x.errorPosition());
        Check.equal("undoCount", 1, x.undoCount());
        Check.equal("spaces", 0, Check.run(x, "      "));
        Check.equal("undoCount", 2, x.undoCount());
        Check.equal("the buffer", 0, Check.inputLength(x));
        Check.equal("the market", Check.marketOf(new StallMarket()), Check.marketOf(x));
        Check.equal("undo", 1, x.undo());
        Check.equal("undo", 0, x.undo());
    }

    private static void isOneUndoableOperation() {
        StallMarket x = new StallMarket();
        x.vacate(0);
        String before = Check.marketOf(x);
        Check.equal("runScript", 6, Check.run(x, "assign ann north;rent west 30;days 2;reallocate;"
                + "prefer cid south;deposit bob 7;"));
        Check.equal("undoCount", 2, x.undoCount());
        Check.equal("undo", 1, x.undo());
        Check.equal("the market", before, Check.marketOf(x));
        Check.equal("a script that stops", 2, Check.run(x, "rent east 9;days 3;vacate ann;days 4;"));
        Check.equal("undo", 1, x.undo());
        Check.equal("the market", before, Check.marketOf(x));
    }

    private static void reportsErrors() {
        expectError(1, "#;");
        expectError(1, "#5;");
        expectError(1, "#foo s;");
        expectError(1, "#Vacate s;");
        expectError(1, "#vacates;");
        expectError(1, "#reallocated;");
        expectError(1, "#reallocat;");
        expectError(1, "#seallocate;");
        expectError(1, "#reallocata;");
        expectError(1, "#tent a 5;");
        expectError(1, "#market;");
        expectError(1, "vacate s#");
        expectError(1, "vacate s  #");
        expectError(1, "vacate #");
        expectError(1, "vacate #;");
        expectError(1, "vacate #4;");
        expectError(1, "vacate s #t;");
        expectError(1, "assign s #;");
        expectError(1, "assign s #1;");
        expectError(1, "assign s #at;");
        expectError(1, "prefer s #at;");
        expectError(1, "remove s #at;");
        expectError(1, "rent #at 5;");
        expectError(1, "rent #5 5;");
        expectError(1, "rent a #b;");
        expectError(1, "rent a 5 #5;");
        expectError(1, "rent a 5#.0;");
        expectError(1, "deposit s #;");
        expectError(1, "deposit s #s;");
        expectError(1, "days #s;");
        expectError(1, "days #");
        expectError(1, "days 5 #6;");
        expectError(1, "reallocate #s;");
        expectError(1, "reallocate;#;");
        expectError(1, "reallocate;#\u00ff");
        expectError(1, "swap s #;");
        expectError(2, "rent a #100;");
        expectError(2, "rent a #4294967296");
        expectError(2, "deposit s #0;");
        expectError(2, "deposit s #000;");
        expectError(2, "deposit s #1000;");
        expectError(2, "days #0;");
        expectError(2, "days #100;");
        expectError(2, "days #18446744073709551617;");
        expectError(3, "vacate #a;");
        expectError(3, "vacate #abcdefg;");
        expectError(3, "vacate #ss;");
        expectError(3, "swap s #a;");
        expectError(3, "swap #a s;");
        expectError(3, "assign s #s;");
        expectError(3, "assign s #aaaaaaaaaaa;");
        expectError(3, "rent #s 5;");
        expectError(3, "deposit #b 5;");
        expectError(3, "prefer s #t;");
        expectError(3, "remove #b a;");
        StallMarket x = small();
        Check.equal("a seller named at", 1, Check.run(x, "deposit at 5;"));
        StallMarket y = new StallMarket();
        Check.put(y, "vacate at;");
        Check.equal("no seller named at", -1, y.runScript());
        Check.equal("its errorCode", 3, y.errorCode());
        Check.equal("its errorPosition", 7, y.errorPosition());
    }

    private static void reportsTooMany() {
        StallMarket x = small();
        Check.equal("twenty commands", 20, Check.run(x, TWENTY));
        Check.equal("twenty commands and spaces", 20, Check.run(x, TWENTY + "  "));
        for (String word : new String[] {"assign", "vacate", "swap", "reallocate", "prefer",
            "remove", "rent", "deposit", "days"}) {
            expectError(5, TWENTY + "#" + word);
            expectError(5, TWENTY + " #" + word + " a;");
        }
        expectError(1, TWENTY + "#foo;");
        expectError(1, TWENTY + "#;");
        expectError(1, TWENTY + " #7");
        expectError(1, TWENTY.substring(0, TWENTY.length() - 1) + "#");
        expectError(2, TWENTY.substring(0, TWENTY.length() - 2) + "#555;vacate");
    }

    private static void anErrorChangesNothingElse() {
        StallMarket x = new StallMarket();
        x.deposit(0, 5);
        x.writeAssignment();
        String before = Check.marketOf(x);
        String output = Check.output(x);
        Check.equal("runScript", -1, Check.run(x, "rent east 50;days 5;vacate joe;"));
        Check.equal("errorCode", 3, x.errorCode());
        Check.equal("errorPosition", 27, x.errorPosition());
        Check.equal("the market", before, Check.marketOf(x));
        Check.equal("the output", output, Check.output(x));
        Check.equal("undoCount", 1, x.undoCount());
        x.vacate(0);
        x.undo();
        Check.equal("the error stays", 3, x.errorCode());
        Check.run(x, "days 5;");
        Check.equal("no error any more", 0, x.errorCode());
        Check.equal("no position any more", -1, x.errorPosition());
        // A script does not free the history of its place: a setup alone clears it.
        Check.equal("undoCount", 2, x.undoCount());
    }
}
