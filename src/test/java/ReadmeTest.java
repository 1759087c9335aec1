/** What README.md shows: each example as it stands there, and each exception that it names. */
public final class ReadmeTest {
    public static void main(String[] args) {
        makingAnObject();
        givingTexts();
        textsWithAnError();
        readingTexts();
        indices();
        ranges();
        states();
        Check.finish("ReadmeTest");
    }

    private static void put(StallMarket market, String text) {
        market.truncateInput(0);
        for (int at = 0; at < text.length(); at += 20) {
            market.appendInput(four(text, at), four(text, at + 4), four(text, at + 8),
                    four(text, at + 12), four(text, at + 16));
        }
        market.truncateInput(text.length());
    }

    private static int four(String text, int at) {
        int bytes = 0;
        for (int i = at; i < at + 4; i++) {
            bytes = bytes << 8 | (i < text.length() ? text.charAt(i) : ' ');
        }
        return bytes;
    }

    private static String output(StallMarket market) {
        StringBuilder text = new StringBuilder();
        for (int i = 0; market.outputByte(i) != -1; i++) {
            text.append((char) market.outputByte(i));
        }
        return text.toString();
    }

    private static void makingAnObject() {
        StallMarket market = new StallMarket();
        Check.equal("allocatedStall", 1, market.allocatedStall(0));
        Check.equal("reallocate", 4, market.reallocate());
        Check.equal("stallOf", 1, market.stallOf(0));
        Check.equal("advanceDays", 1, market.advanceDays(4));
        Check.equal("dot is evicted", -1, market.stallOf(3));
        Check.equal("undo", 1, market.undo());
        Check.equal("dot is not evicted on the third day", 0, market.advanceDays(3));
    }

    private static void givingTexts() {
        StallMarket market = new StallMarket();
        put(market, "market;stall a 1;stall b 9;seller s 2 3 b a at a;");
        Check.equal("loadSetup", 1, market.loadSetup());
        put(market, "deposit s 5;days 3;assign s b;vacate s;");
        Check.equal("runScript", 4, market.runScript());
        Check.equal("balance", 13, market.balance(0));
        put(market, "vacate s;days 1;");
        Check.equal("runScript stops", 0, market.runScript());
        put(market, "s");
        Check.equal("findSeller", 0, market.findSeller());
    }

    private static void textsWithAnError() {
        StallMarket market = new StallMarket();
        put(market, "market;stall a 100;seller s 2 3 a;");
        Check.equal("loadSetup", -1, market.loadSetup());
        Check.equal("errorCode", 2, market.errorCode());
        Check.equal("errorPosition", 15, market.errorPosition());
        Check.equal("undo after an error", -1, market.undo());
        put(market, "");
        Check.equal("an empty script", 0, market.runScript());
        Check.equal("errorCode without an error", 0, market.errorCode());
        Check.equal("errorPosition without an error", -1, market.errorPosition());
    }

    private static void readingTexts() {
        StallMarket market = new StallMarket();
        Check.equal("writeAssignment", 29, market.writeAssignment());
        Check.equal("the assignment", "ann:east bob:west cid:- dot:-", output(market));
        Check.equal("writePreferences", 15, market.writePreferences(3));
        Check.equal("the preferences", "south>east>west", output(market));
    }

    private static void indices() {
        StallMarket market = new StallMarket();
        Check.index("no seller", market, () -> market.balance(4));
        Check.index("no stall", market, () -> market.rent(-1));
        Check.index("no position on the list", market, () -> market.preferenceAt(0, 2));
        Check.equal("-1 is no stall", true, market.prefers(0, 0, -1));
        Check.equal("no byte of a name", -1, market.sellerNameByte(0, 3));
        Check.equal("no byte of the output", -1, market.outputByte(0));
        Check.index("the index comes before the number", market, () -> market.setRent(4, 100));
        Check.index("the index comes before the state", market, () -> market.assign(4, 0));
    }

    private static void ranges() {
        StallMarket market = new StallMarket();
        Check.argument("truncateInput", market, () -> market.truncateInput(1));
        Check.argument("balanceAfter", market, () -> market.balanceAfter(0, 401));
        Check.argument("setPriority", market, () -> market.setPriority(0, market.sellerCount()));
        Check.argument("setRent", market, () -> market.setRent(0, 100));
        Check.argument("deposit", market, () -> market.deposit(0, 1000));
        Check.argument("advanceDays", market, () -> market.advanceDays(100));
    }

    private static void states() {
        StallMarket market = new StallMarket();
        put(market, " ".repeat(700));
        Check.state("appendInput", market, () -> market.appendInput(0, 0, 0, 0, 0));
        Check.state("assign to a stall that is not free", market, () -> market.assign(0, 1));
        Check.state("assign to a stall that is too dear", market, () -> market.assign(3, 3));
        Check.state("vacate", market, () -> market.vacate(2));
        Check.state("swap", market, () -> market.swap(0, 2));
        Check.state("removePreference", market, () -> market.removePreference(0, 3));
        Check.state("restore", market, market::restore);
        for (int day = 0; day < 9999; day += 99) {
            market.advanceDays(99);
        }
        Check.equal("the last day", 9999, market.day());
        Check.state("advanceDays", market, () -> market.advanceDays(1));
        Check.argument("the number comes before the state", market, () -> market.advanceDays(100));
    }
}
