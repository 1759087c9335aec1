/** Promises 2, 3 and 23: the input buffer. */
public final class InputTest {
    public static void main(String[] args) {
        appendsBytesInOrder();
        refusesMoreThanItsRoom();
        truncates();
        findsSellers();
        Check.finish("InputTest");
    }

    private static void appendsBytesInOrder() {
        StallMarket x = new StallMarket();
        Check.equal("the first length", 20, x.appendInput(Check.word("mark", 0),
                Check.word("et;s", 0), Check.word("tall", 0), Check.word(" a 1", 0),
                Check.word(";sel", 0)));
        Check.equal("the second length", 40, x.appendInput(Check.word("ler ", 0),
                Check.word("bcde", 0), Check.word("fg 2", 0), Check.word(" 3 a", 0),
                Check.word(";   ", 0)));
        Check.equal("loadSetup", 1, x.loadSetup());
        Check.equal("the name", "bcdefg", Check.sellerName(x, 0));
        Check.equal("the length after it", 0, Check.inputLength(x));
        // Bytes above 127 must arrive as such, not as negative numbers or joined with others.
        x.appendInput(0x20FF2020, 0, 0, 0, 0);
        Check.equal("a high byte", -1, x.loadSetup());
        Check.equal("its position", 1, x.errorPosition());
        x.appendInput(0x20202020, 0x202020F0, 0, 0, 0);
        Check.equal("a high byte at the end of a word", -1, x.loadSetup());
        Check.equal("its position", 7, x.errorPosition());
        x.appendInput(0x20202020, 0x20202020, 0x20202020, 0x20202020, 0x20202080);
        Check.equal("a high byte at the very end", -1, x.loadSetup());
        Check.equal("its position", 19, x.errorPosition());
    }

    private static void refusesMoreThanItsRoom() {
        StallMarket x = new StallMarket();
        for (int i = 1; i <= 34; i++) {
            Check.equal("length " + i, 20 * i, x.appendInput(0, 0, 0, 0, 0));
        }
        x.truncateInput(679);
        Check.equal("length 699", 699, x.appendInput(0, 0, 0, 0, 0));
        x.truncateInput(681);
        Check.state("append at 681", x, () -> x.appendInput(0, 0, 0, 0, 0));
        x.truncateInput(680);
        Check.equal("length 700", 700, x.appendInput(0, 0, 0, 0, 0));
        Check.state("append at 700", x, () -> x.appendInput(0, 0, 0, 0, 0));
        Check.equal("the length still", 700, Check.inputLength(x));
        Check.equal("a full buffer as a setup", -1, x.loadSetup());
        Check.equal("room again", 20, x.appendInput(0, 0, 0, 0, 0));
    }

    private static void truncates() {
        StallMarket x = new StallMarket();
        Check.equal("nothing to nothing", 0, x.truncateInput(0));
        Check.argument("beyond an empty buffer", x, () -> x.truncateInput(1));
        Check.argument("a negative length", x, () -> x.truncateInput(-1));
        x.appendInput(Check.word("annx", 0), 0, 0, 0, 0);
        Check.argument("one too many", x, () -> x.truncateInput(21));
        Check.argument("far too many", x, () -> x.truncateInput(Integer.MAX_VALUE));
        Check.argument("far too few", x, () -> x.truncateInput(Integer.MIN_VALUE));
        Check.equal("the current length", 20, x.truncateInput(20));
        Check.equal("the first bytes stay", 3, x.truncateInput(3));
        Check.equal("and are read", 0, x.findSeller());
        Check.equal("no undoable operation", 0, x.undoCount());
    }

    private static void findsSellers() {
        StallMarket x = new StallMarket();
        expectFound(x, "ann", 0);
        expectFound(x, "bob", 1);
        expectFound(x, "dot", 3);
        for (String text : new String[] {"", "an", "anna", "ann ", " ann", "east", "ann;", "Ann",
            "\0ann", "ann\0", "1", "annannannann", "nna"}) {
            expectFound(x, text, -1);
        }
        Check.put(x, "cid");
        x.findSeller();
        Check.equal("the buffer stays", 3, Check.inputLength(x));
        Check.equal("found again", 2, x.findSeller());
        Check.load(x, "market;stall ann 1;seller abcdef 1 1;seller at 1 1;");
        expectFound(x, "abcdef", 0);
        expectFound(x, "abcdefg", -1);
        expectFound(x, "bcdefg", -1);
        expectFound(x, "at", 1);
        expectFound(x, "ann", -1);
        // The reported error belongs to loadSetup and runScript alone.
        Check.put(x, "?");
        x.loadSetup();
        expectFound(x, "abcdef", 0);
        Check.equal("the error stays", 1, x.errorCode());
        Check.equal("its position stays", 0, x.errorPosition());
    }

    private static void expectFound(StallMarket x, String text, int want) {
        Check.put(x, text);
        Check.equal("findSeller of " + text, want, x.findSeller());
    }
}
