/** Promises 4, 6 and 7: the grammar of setups, its errors, and what loading keeps. */
public final class SetupTest {
    private static final String STALLS8 = "market;stall a 0;stall b 1;stall c 2;stall d 3;stall e 4;"
            + "stall f 5;stall g 6;stall h 7;";
    private static final String SELLERS8 = "seller a 0 0;seller b 1 1;seller c 2 2;seller d 3 3;"
            + "seller e 4 4;seller f 5 5;seller g 6 6;seller h 7 7;";

    public static void main(String[] args) {
        readsValidTexts();
        acceptsSpacesAnywhere();
        reportsTokensThatAreNotAllowed();
        reportsEveryCutText();
        reportsNumbers();
        reportsNames();
        reportsStallsTwice();
        reportsTooMany();
        loadingStartsAnew();
        anErrorChangesNothingElse();
        Check.finish("SetupTest");
    }

    private static void expectError(String text, int code, int position) {
        StallMarket x = new StallMarket();
        Check.put(x, text);
        Check.equal("loadSetup of " + text, -1, x.loadSetup());
        Check.equal("errorCode of " + text, code, x.errorCode());
        Check.equal("errorPosition of " + text, position, x.errorPosition());
        Check.equal("the buffer after " + text, 0, Check.inputLength(x));
    }

    /** The error is to stand where the mark # stands. */
    private static void expectError(int code, String marked) {
        int position = marked.indexOf('#');
        expectError(marked.replace("#", ""), code, position);
    }

    private static void expectMarket(String text, String want) {
        StallMarket x = new StallMarket();
        Check.put(x, text);
        int sellers = x.loadSetup();
        Check.equal("loadSetup of " + text, x.sellerCount(), sellers);
        Check.equal("errorCode of " + text, 0, x.errorCode());
        Check.equal("errorPosition of " + text, -1, x.errorPosition());
        Check.equal("the buffer after " + text, 0, Check.inputLength(x));
        Check.equal("the market of " + text, want, Check.marketOf(x));
    }

    private static void readsValidTexts() {
        expectMarket("market;stall a 0;seller b 0 0;",
                "day 0 statistics 0 0 0 0; a 0 by -1; b 0 0 list ; places - order 0 ledger 0");
        expectMarket("market;stall a 99;stall b 1;seller a 9999 99 b a at b;",
                "day 0 statistics 0 0 0 0; a 99 by -1; b 1 by 0; a 9999 99 list 10; places 1 order "
                + "0 ledger 0");
        expectMarket("market;stall a 1;stall b 1;seller x 1 1 a at b;seller y 1 1 at a;",
                "day 0 statistics 0 0 0 0; a 1 by 1; b 1 by 0; x 1 1 list 0; y 1 1 list ; places "
                + "10 order 01 ledger 0");
        // Words of the grammar are names too, but for "at" as a stall.
        expectMarket("market;stall stall 1;stall seller 2;stall market 3;seller seller 4 5 seller "
                + "market at stall;seller at 1 1;seller market 1 1 seller;",
                "day 0 statistics 0 0 0 0; stall 1 by 0; seller 2 by -1; market 3 by -1; seller 4 5 "
                + "list 12; at 1 1 list ; market 1 1 list 1; places 0-- order 012 ledger 0");
        expectMarket("market;stall a 000000000000000000000000000012;seller b 0009999 00099;",
                "day 0 statistics 0 0 0 0; a 12 by -1; b 9999 99 list ; places - order 0 ledger 0");
        StallMarket x = Check.market(STALLS8 + SELLERS8);
        Check.equal("eight stalls", 8, x.stallCount());
        Check.equal("eight sellers", 8, x.sellerCount());
        Check.equal("the last rent", 7, x.rent(7));
        Check.equal("the last balance", 7, x.balance(7));
        Check.equal("the order", "01234567", Check.order(x));
        Check.load(x, STALLS8 + "seller a 0 0 h g f e d c b a at h;");
        Check.equal("a full list", "76543210", Check.list(x, 0));
    }

    private static void acceptsSpacesAnywhere() {
        String want = "day 0 statistics 0 0 0 0; a 5 by 0; b 6 by -1; s 7 8 list 10; places 0 order "
                + "0 ledger 0";
        expectMarket("market;stall a 5;stall b 6;seller s 7 8 b a at a;", want);
        expectMarket("  market  ;  stall  a  5  ;  stall b 6 ; seller s 7  8 b  a  at  a  ;   ", want);
        expectMarket("market;stall a5;stall b6;seller s7 8b a at a;", want);
        expectError(1, "market;stall a 5;#sellers 7 8;");
        expectError(1, "market;stall a 5;#\tseller s 7 8;");
        expectError(1, "market;stall a 5;seller s 7 8;#\n");
    }

    private static void reportsTokensThatAreNotAllowed() {
        expectError(1, "#");
        expectError(1, "     #");
        expectError(1, "#markets;");
        expectError(1, "#marke;");
        expectError(1, "#narket;");
        expectError(1, "#markez;");
        expectError(1, "market;#atall a 1;");
        expectError(1, "market;stall a 1;#teller s 1 1;");
        expectError(1, "#;market");
        expectError(1, "#5;");
        expectError(1, "  #Market;");
        expectError(1, "market #stall a 1;");
        expectError(1, "market;#seller s 1 1;");
        expectError(1, "market;#;stall a 1;");
        expectError(1, "market;stall #5 5;");
        expectError(1, "market;stall #; 5;");
        expectError(1, "market;stall a #b 5;");
        expectError(1, "market;stall a #;");
        expectError(1, "market;stall a 1 #2;");
        expectError(1, "market;stall a 1;#market;");
        expectError(1, "market;stall a 1;#x");
        expectError(1, "market;stall a 1;seller #;");
        expectError(1, "market;stall a 1;seller #7 1 1;");
        expectError(1, "market;stall a 1;seller s #a 1;");
        expectError(1, "market;stall a 1;seller s 1 #a;");
        expectError(1, "market;stall a 1;seller s 1 #;");
        expectError(1, "market;stall a 1;seller s 1 1 a #3;");
        expectError(1, "market;stall a 1;seller s 1 1 at #;");
        expectError(1, "market;stall a 1;seller s 1 1 at #at;");
        expectError(1, "market;stall a 1;seller s 1 1 at #5;");
        expectError(1, "market;stall a 1;seller s 1 1 at a #a;");
        expectError(1, "market;stall a 1;seller s 1 1 at a #at a;");
        expectError(1, "market;stall a 1;seller s 1 1 a;#stall b 1;");
        expectError(1, "market;stall a 1;seller s 1 1 a;#;");
        expectError(1, "market;stall a 1;seller s 1 1 a;#x;");
        expectError(1, "market;stall a 1;seller s 1 1 a#\u00e9;");
        expectError(1, "market;stall a 1;seller s 1 1 a#\0;");
        expectError(1, "market;stall a 1;seller s #-1 1;");
        expectError(1, "market;stall a 1#.5;");
        expectError(1, STALLS8 + "#x");
        expectError(1, STALLS8 + SELLERS8 + "#x");
        expectError(1, STALLS8 + SELLERS8 + "#stall i 1;");
        expectError(1, STALLS8 + SELLERS8 + "#;");
    }

    /** Wherever a valid text is cut, it ends too early, unless a shorter word or number stays. */
    private static void reportsEveryCutText() {
        String text = "market;stall a 5;seller s 7 8 a at a;";
        for (int length = 0; length < text.length(); length++) {
            String cut = text.substring(0, length) + " ";
            boolean insideWord = length > 0 && Character.isLetter(text.charAt(length - 1))
                    && Character.isLetter(text.charAt(length));
            if (!insideWord) {
                expectError(cut, 1, cut.length());
                expectError(cut.substring(0, length), 1, length);
            }
        }
    }

    private static void reportsNumbers() {
        expectError(2, "market;stall a #100;");
        expectError(2, "market;stall a #00000100");
        expectError(2, "market;stall a #4294967296;");
        expectError(2, "market;stall a #99999999999999999999999999999999999999;");
        expectError(2, "market;stall a #18446744073709551617;");
        expectError(2, "market;stall a 1;seller s #10000 1;");
        expectError(2, "market;stall a 1;seller s #100000 1;");
        expectError(2, "market;stall a 1;seller s 1 #100;");
        expectError(2, "market;stall a 1;seller s 1 #4294967297");
    }

    private static void reportsNames() {
        expectError(3, "market;stall #abcdefg 5;");
        expectError(3, "market;stall #at 5;");
        expectError(3, "market;stall a 1;stall #a 5;");
        expectError(3, "market;stall abcdef 1;stall b 1;stall #abcdef 5;");
        expectError(3, "market;stall a 1;seller #abcdefg 5 5;");
        expectError(3, "market;stall a 1;seller s 1 1;seller #s 5 5;");
        expectError(3, "market;stall a 1;seller at 1 1;seller #at 5 5;");
        expectError(3, "market;stall a 1;seller s 1 1 #b;");
        expectError(3, "market;stall a 1;seller s 1 1 #aa;");
        expectError(3, "market;stall a 1;seller s 1 1 #s;");
        expectError(3, "market;stall a 1;seller s 1 1 #abcdefgh;");
        expectError(3, "market;stall a 1;seller s 1 1 a at #b;");
        expectError(3, "market;stall a 1;seller s 1 1 a at #abcdefgh;");
        expectError(3, "market;stall a 1;seller s 1 1 #seller;");
        expectError(3, "market;stall a 1;seller s 1 1 #et a;");
        expectError(3, "market;stall a 1;seller s 1 1 #as a;");
        // The first six letters do not make a longer word that name.
        expectError(3, "market;stall abcdef 1;stall #abcdefg 1;");
        expectError(3, "market;stall abcdef 1;seller s 1 1 #abcdefabcdef;");
        expectError(3, "market;stall a 1;seller s 1 1 #atat;");
        Check.equal("names that begin alike", "ab",
                Check.stallName(Check.market("market;stall a 1;stall ab 1;seller b 1 1 ab a;"), 1));
    }

    private static void reportsStallsTwice() {
        expectError(4, "market;stall a 1;seller s 1 1 a #a;");
        expectError(4, "market;stall a 1;stall b 1;seller s 1 1 a b #a at b;");
        expectError(4, "market;stall a 1;seller s 1 1 at a;seller t 1 1 a at #a;");
        expectError(4, STALLS8 + "seller s 1 1 a b c d e f g h #h;");
        expectError(4, STALLS8 + "seller s 1 1 a b c d e f g h #a at a;");
        expectError(3, STALLS8 + "seller s 1 1 a b c d e f g h #i;");
        expectError(1, STALLS8 + "seller s 1 1 a b c d e f g h #5;");
        expectError(1, STALLS8 + "seller s 1 1 a b c d e f g h at a #b;");
    }

    private static void reportsTooMany() {
        expectError(5, STALLS8 + "#stall i 1;");
        expectError(5, STALLS8 + " #stall");
        expectError(5, STALLS8 + SELLERS8 + "#seller i 1 1;");
        expectError(5, STALLS8 + SELLERS8 + "  #seller ;");
        expectError(1, STALLS8 + SELLERS8 + "#sellers ;");
        expectError(1, STALLS8 + "#stalls ;");
    }

    private static void loadingStartsAnew() {
        StallMarket x = new StallMarket();
        x.swap(0, 1);
        x.setPriority(3, 0);
        x.advanceDays(9);
        x.reallocate();
        x.save();
        // What such a question works on must not get into the market that is loaded next.
        x.allocatedIfFirst(3);
        x.writeAssignment();
        String output = Check.output(x);
        String saved = Check.marketOf(x);
        Check.put(x, "market;stall a 1;seller s 2 3 a at a;seller t 4 5;");
        Check.equal("loadSetup", 2, x.loadSetup());
        Check.equal("the market", "day 0 statistics 0 0 0 0; a 1 by 0; s 2 3 list 0; t 4 5 list ; "
                + "places 0- order 01 ledger 0", Check.marketOf(x));
        Check.equal("undoCount", 0, x.undoCount());
        Check.equal("undo", -1, x.undo());
        Check.equal("the output stays", output, Check.output(x));
        Check.equal("the saved day", 9, x.restore());
        Check.equal("the saved market", saved, Check.marketOf(x));
    }

    private static void anErrorChangesNothingElse() {
        StallMarket x = new StallMarket();
        x.swap(0, 1);
        x.advanceDays(3);
        x.writeAssignment();
        String before = Check.marketOf(x);
        String output = Check.output(x);
        Check.put(x, "market;stall a 1;seller s 1 1 a;seller t 1 1 b;");
        Check.equal("loadSetup", -1, x.loadSetup());
        Check.equal("errorCode", 3, x.errorCode());
        Check.equal("errorPosition", 45, x.errorPosition());
        Check.equal("the market", before, Check.marketOf(x));
        Check.equal("the output", output, Check.output(x));
        Check.equal("undoCount", 2, x.undoCount());
        x.undo();
        x.save();
        x.restore();
        Check.equal("the error stays over other calls", 3, x.errorCode());
        Check.load(x, "market;stall a 1;seller s 1 1 a;");
        Check.equal("the position after a valid text", -1, x.errorPosition());
    }
}
