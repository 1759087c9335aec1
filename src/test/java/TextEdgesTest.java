import java.math.BigInteger;

/** The edges of promises 2 to 7 and 23, and of the section "Texts": one method a sentence. */
public final class TextEdgesTest {
    private static final int SETUP = 0;
    private static final int SCRIPT = 1;

    public static void main(String[] args) {
        theInputTakesSevenHundredBytes();
        bytesComeMostSignificantFirst();
        truncatingKeepsTheFirstBytes();
        fullBuffersAreRead();
        oneToEightStalls();
        oneToEightSellers();
        zeroToTwentyCommands();
        numbersHaveRanges();
        numbersHaveAnyLength();
        namesHaveOneToSixLetters();
        wordsHaveAnyLength();
        everyOtherByteIsAnError();
        lettersAndDigitsEndAtTheirEnds();
        spacesMayStandAnywhere();
        listsMayBeEmptyOrFull();
        atIsNeverAStall();
        namesAreDistinctWithinTheirKind();
        aTextThatEndsTooEarly();
        parsingStopsAtTheFirstError();
        theSmallestCodeIsReported();
        theMostRecentCallReports();
        theBufferIsEmptyAfterwards();
        findSellerTakesTheWholeBuffer();
        Check.finish("TextEdgesTest");
    }

    private static int read(StallMarket x, int kind, String text) {
        Check.put(x, text);
        return kind == SETUP ? x.loadSetup() : x.runScript();
    }

    private static StallMarket accept(int kind, int want, String text) {
        StallMarket x = new StallMarket();
        Check.equal("the answer to " + text, want, read(x, kind, text));
        Check.equal("errorCode of " + text, 0, x.errorCode());
        Check.equal("errorPosition of " + text, -1, x.errorPosition());
        return x;
    }

    private static void reject(int kind, int code, int position, String text) {
        StallMarket x = new StallMarket();
        Check.equal("the answer to " + text, -1, read(x, kind, text));
        Check.equal("errorCode of " + text, code, x.errorCode());
        Check.equal("errorPosition of " + text, position, x.errorPosition());
        Check.equal("the market after " + text, Check.marketOf(new StallMarket()), Check.marketOf(x));
    }

    /** The error stands where the mark # stands. */
    private static void reject(int kind, int code, String marked) {
        reject(kind, code, marked.indexOf('#'), marked.replace("#", ""));
    }

    private static int append(StallMarket x) {
        try {
            return x.appendInput(0, 0, 0, 0, 0);
        } catch (IllegalStateException e) {
            return -1;
        }
    }

    private static void theInputTakesSevenHundredBytes() {
        StallMarket x = new StallMarket();
        for (int calls = 1; calls <= 35; calls++) {
            Check.equal("length after " + calls, 20 * calls, append(x));
        }
        Check.equal("720 bytes", -1, append(x));
        for (int length = 700; length >= 660; length--) {
            x.truncateInput(length);
            int want = length <= 680 ? length + 20 : -1;
            Check.equal("20 bytes more than " + length, want, append(x));
            x.truncateInput(length);
        }
    }

    private static void bytesComeMostSignificantFirst() {
        for (int at = 0; at < 20; at++) {
            for (int value : new int[] {0, 1, 127, 128, 129, 254, 255}) {
                int[] words = {0x20202020, 0x20202020, 0x20202020, 0x20202020, 0x20202020};
                int shift = 24 - 8 * (at % 4);
                words[at / 4] = words[at / 4] & ~(255 << shift) | value << shift;
                StallMarket x = new StallMarket();
                x.appendInput(words[0], words[1], words[2], words[3], words[4]);
                Check.equal("the byte " + value + " at " + at, -1, x.runScript());
                Check.equal("its position", at, x.errorPosition());
                x.appendInput(words[0], words[1], words[2], words[3], words[4]);
                x.truncateInput(at);
                Check.equal("spaces before the byte at " + at, 0, x.runScript());
            }
        }
        StallMarket x = new StallMarket();
        Check.put(x, "deposit ");
        x.truncateInput(8);
        x.appendInput(0x626F6220, 0x37203B64, 0x61797320, 0x313B7265, 0x6E742065);
        x.appendInput(0x61737420, 0x39393B20, 0x20202020, 0x20202020, 0x20202020);
        Check.equal("words across arguments and calls", 3, x.runScript());
        Check.equal("the deposit and a day", 3 + 7 + 6 - 8, x.balance(1));
        Check.equal("the rent", 99, x.rent(0));
    }

    private static void truncatingKeepsTheFirstBytes() {
        String text = "days 11;days 5;vacate ann;";
        int[] ends = {0, 8, 15, 26};
        for (int commands = 0; commands < ends.length; commands++) {
            StallMarket x = new StallMarket();
            Check.put(x, text);
            Check.equal("truncateInput", ends[commands], x.truncateInput(ends[commands]));
            Check.equal("to the same again", ends[commands], x.truncateInput(ends[commands]));
            Check.equal("what is left", commands, x.runScript());
        }
        StallMarket x = new StallMarket();
        Check.put(x, "cid");
        Check.equal("what was cut off does not come back", 23, x.appendInput(0, 0, 0, 0, 0));
        x.truncateInput(3);
        Check.equal("the first bytes", 2, x.findSeller());
    }

    private static void fullBuffersAreRead() {
        String setup = "market;stall a 7;seller s 8 9 a at a";
        String full = setup + " ".repeat(699 - setup.length()) + ";";
        Check.equal("the last of 700 bytes", 9, accept(SETUP, 1, full).income(0));
        reject(SETUP, 1, 699, full.substring(0, 699) + "?");
        reject(SETUP, 1, 700, full.substring(0, 699) + " ");
        reject(SETUP, 1, 699, full.substring(0, 699));
        String script = "days 1" + " ".repeat(693) + ";";
        Check.equal("a day of 700 bytes", 1, accept(SCRIPT, 1, script).day());
        reject(SCRIPT, 1, 700, script.substring(0, 699) + " ");
        reject(SCRIPT, 1, 699, script.substring(0, 699) + "\0");
        accept(SCRIPT, 0, " ".repeat(700));
    }

    private static void oneToEightStalls() {
        for (int count = 0; count <= 10; count++) {
            String stalls = "market;" + Check.entries(count, "stall @ 5;");
            String text = stalls + "seller s 1 1;";
            if (count == 0) {
                reject(SETUP, 1, 7, text);
            } else if (count <= 8) {
                Check.equal("stallCount", count, accept(SETUP, 1, text).stallCount());
            } else {
                reject(SETUP, 5, "market;".length() + 8 * "stall a 5;".length(), text);
            }
        }
        reject(SETUP, 5, "market;" + Check.entries(8, "stall @ 5;") + "#stall");
        reject(SETUP, 5, "market;" + Check.entries(8, "stall @ 5;") + "   #stall a 100");
    }

    private static void oneToEightSellers() {
        for (int count = 0; count <= 10; count++) {
            String text = "market;stall a 5;" + Check.entries(count, "seller @ 1 1;");
            if (count == 0) {
                reject(SETUP, 1, text.length(), text);
            } else if (count <= 8) {
                Check.equal("sellerCount", count, accept(SETUP, count, text).sellerCount());
            } else {
                reject(SETUP, 5, "market;stall a 5;".length() + 8 * "seller a 1 1;".length(), text);
            }
        }
        reject(SETUP, 5, "market;stall a 5;" + Check.entries(8, "seller @ 1 1;") + "#seller");
        reject(SETUP, 5, "market;stall a 5;" + Check.entries(8, "seller @ 1 1;") + " #seller a");
    }

    private static void zeroToTwentyCommands() {
        String command = "rent east 7;";
        for (int count = 0; count <= 22; count++) {
            String text = command.repeat(count);
            if (count <= 20) {
                accept(SCRIPT, count, text);
                accept(SCRIPT, count, text + "  ");
            } else {
                reject(SCRIPT, 5, 20 * command.length(), text);
            }
        }
        reject(SCRIPT, 5, "reallocate;".repeat(20) + "#days");
        reject(SCRIPT, 5, "vacate cid;".repeat(20) + " #vacate nobody");
        reject(SCRIPT, 1, "days 1;".repeat(19) + "days 1#");
    }

    private static void numbersHaveRanges() {
        range(SETUP, "market;stall a @;seller s 7 7;", 0, 99);
        range(SETUP, "market;stall a 7;seller s @ 7;", 0, 9999);
        range(SETUP, "market;stall a 7;seller s 7 @;", 0, 99);
        range(SCRIPT, "rent east @;", 0, 99);
        range(SCRIPT, "deposit ann @;", 1, 999);
        range(SCRIPT, "days @;", 1, 99);
        StallMarket x = accept(SETUP, 1, "market;stall a 99;seller s 9999 99;");
        Check.equal("the greatest rent", 99, x.rent(0));
        Check.equal("the greatest balance", 9999, x.balance(0));
        Check.equal("the greatest income", 99, x.income(0));
        StallMarket y = accept(SETUP, 1, "market;stall a 0;seller s 0 0;");
        Check.equal("the least numbers", 0, y.rent(0) + y.balance(0) + y.income(0));
        Check.equal("the greatest amount", 1019, accept(SCRIPT, 1, "deposit ann 999;").balance(0));
        Check.equal("the least amount", 21, accept(SCRIPT, 1, "deposit ann 1;").balance(0));
        Check.equal("the most days", 99, accept(SCRIPT, 1, "days 99;").day());
        Check.equal("the least days", 1, accept(SCRIPT, 1, "days 1;").day());
        Check.equal("the greatest new rent", 99, accept(SCRIPT, 1, "rent east 99;").rent(0));
        Check.equal("the least new rent", 0, accept(SCRIPT, 1, "rent east 0;").rent(0));
    }

    private static void range(int kind, String pattern, int least, int most) {
        accept(kind, 1, pattern.replace("@", String.valueOf(least)));
        accept(kind, 1, pattern.replace("@", String.valueOf(most)));
        accept(kind, 1, pattern.replace("@", "00" + most));
        if (least > 0) {
            reject(kind, 2, pattern.replace("@", "#0"));
            reject(kind, 2, pattern.replace("@", "#0000"));
        }
        reject(kind, 2, pattern.replace("@", "#" + (most + 1)));
        reject(kind, 2, pattern.replace("@", "#0" + (most + 1)));
        reject(kind, 2, pattern.replace("@", "#" + most + "0"));
        reject(kind, 2, pattern.replace("@", "#1" + "0".repeat(String.valueOf(most).length())));
        for (int bits : new int[] {8, 15, 16, 31, 32, 33, 63, 64, 65, 128}) {
            if (bits > 14 || most < 100) {
                // An arithmetic that wraps around would find the least number here.
                BigInteger wrapped = BigInteger.ONE.shiftLeft(bits).add(BigInteger.valueOf(least));
                reject(kind, 2, pattern.replace("@", "#" + wrapped));
            }
        }
        reject(kind, 1, pattern.replace("@", "#-1"));
        reject(kind, 1, pattern.replace("@", "#+1"));
    }

    private static void numbersHaveAnyLength() {
        Check.equal("600 zeros", 42,
                accept(SETUP, 1, "market;stall a " + "0".repeat(600) + "42;seller s 1 1;").rent(0));
        Check.equal("600 zeros alone", 0,
                accept(SETUP, 1, "market;stall a " + "0".repeat(600) + ";seller s 1 1;").rent(0));
        reject(SETUP, 2, "market;stall a #" + "9".repeat(600) + ";seller s 1 1;");
        reject(SETUP, 2, "market;stall a #1" + "0".repeat(600) + ";seller s 1 1;");
        Check.equal("600 zeros before a day", 9,
                accept(SCRIPT, 1, "days " + "0".repeat(600) + "9;").day());
        reject(SCRIPT, 2, "days #" + "0".repeat(600) + ";");
        reject(SCRIPT, 2, "days #" + "0".repeat(600) + "100;");
    }

    private static void namesHaveOneToSixLetters() {
        for (int length = 1; length <= 8; length++) {
            String name = "zabcdefg".substring(0, length);
            String setup = "market;stall " + name + " 1;seller " + name + " 1 1 " + name + ";";
            if (length <= 6) {
                StallMarket x = accept(SETUP, 1, setup);
                Check.equal("a stall of " + length + " letters", name, Check.stallName(x, 0));
                Check.equal("a seller of " + length + " letters", name, Check.sellerName(x, 0));
                Check.equal("no stall's letter " + length, -1, x.stallNameByte(0, length));
                Check.equal("no seller's letter " + length, -1, x.sellerNameByte(0, length));
                Check.equal("used", 1, Check.run(x, "assign " + name + " " + name + ";"));
            } else {
                reject(SETUP, 3, "market;stall #" + name + " 1;seller s 1 1;");
                reject(SETUP, 3, "market;stall a 1;seller #" + name + " 1 1;");
            }
        }
        reject(SETUP, 1, "market;stall #;");
        reject(SETUP, 1, "market;stall a 1;seller # 1 1;".replace("# ", " #"));
    }

    /** A longer word is none of the names that are its beginning or its end. */
    private static void wordsHaveAnyLength() {
        String setup = "market;stall abcdef 1;stall b 1;seller abcdef 1 1;seller b 1 1 ";
        for (String word : new String[] {"abcdefa", "aabcdef", "abcdefabcdef", "bb", "abcde",
            "bcdef"}) {
            reject(SETUP, 3, setup + "#" + word + ";");
            reject(SETUP, 3, setup + "at #" + word + ";");
            StallMarket x = Check.market(setup + ";");
            for (String script : new String[] {"vacate #@;", "swap b #@;", "assign b #@;", "rent #@ 1;",
                "deposit #@ 1;", "prefer #@ b;", "prefer b #@;", "remove #@ b;", "remove b #@;",
                "assign #@ b;", "swap #@ b;"}) {
                String text = script.replace("@", word);
                Check.equal("the answer to " + text, -1, read(x, SCRIPT, text.replace("#", "")));
                Check.equal("errorCode of " + text, 3, x.errorCode());
                Check.equal("errorPosition of " + text, text.indexOf('#'), x.errorPosition());
            }
        }
        reject(SETUP, 3, "market;stall #" + "a".repeat(600) + " 1;seller s 1 1;");
        reject(SETUP, 1, "#" + "market".repeat(100) + ";");
        reject(SCRIPT, 1, "#" + "days".repeat(150) + " 1;");
        reject(SCRIPT, 3, "vacate #" + "ann".repeat(200) + ";");
    }

    private static boolean between(int value, char least, char most) {
        return value >= least && value <= most;
    }

    private static void everyOtherByteIsAnError() {
        for (int value = 0; value < 256; value++) {
            char sign = (char) value;
            if (value == ' ') {
                accept(SCRIPT, 0, " ");
                accept(SCRIPT, 1, "days 1; ");
                accept(SETUP, 1, " market;stall a 1;seller s 1 1;");
                continue;
            }
            reject(SCRIPT, 1, 0, String.valueOf(sign));
            reject(SCRIPT, 1, 7, "days 1;" + sign);
            reject(SETUP, 1, 0, sign + "market;stall a 1;seller s 1 1;");
            reject(SETUP, 1, 30, "market;stall a 1;seller s 1 1;" + sign);
        }
    }

    /** What follows a word or a number at once belongs to it, or is a token of its own. */
    private static void lettersAndDigitsEndAtTheirEnds() {
        for (int value = 0; value < 256; value++) {
            char sign = (char) value;
            boolean letter = between(value, 'a', 'z');
            boolean digit = between(value, '0', '9');
            if (value == ' ') {
                accept(SCRIPT, 1, "vacate ann ;");
                accept(SCRIPT, 1, "days 1 ;");
            } else {
                int behind = value == ';' ? 11 : 10;
                reject(SCRIPT, letter ? 3 : 1, letter ? 7 : behind, "vacate ann" + sign + ";");
                if (digit) {
                    Check.equal("a second digit", 10 + value - '0',
                            accept(SCRIPT, 1, "days 1" + sign + ";").day());
                } else {
                    reject(SCRIPT, 1, value == ';' ? 7 : 6, "days 1" + sign + ";");
                }
            }
        }
        Check.equal("the first and last letter", "az",
                Check.stallName(accept(SETUP, 1, "market;stall az 1;seller z 1 1;"), 0));
        Check.equal("the first and last digit", 90,
                accept(SETUP, 1, "market;stall a 90;seller z 1 1;").rent(0));
    }

    private static void spacesMayStandAnywhere() {
        String none = "market;stall a5;stall b6;seller s7 8b a at b;seller at1 0;";
        String want = Check.marketOf(accept(SETUP, 2, none));
        for (String text : new String[] {
            "market ; stall a 5 ; stall b 6 ; seller s 7 8 b a at b ; seller at 1 0 ;",
            " market;stall a 5;stall b 6;seller s 7 8 b a at b;seller at 1 0;",
            "market;stall a 5;stall b 6;seller s 7 8 b a at b;seller at 1 0; ",
            "   market   ;   stall   a   5   ;   stall   b   6   ;   seller   s   7   8   b   a   at"
                + "   b   ;   seller   at   1   0   ;   "}) {
            Check.equal("the market of " + text, want, Check.marketOf(accept(SETUP, 2, text)));
        }
        reject(SETUP, 1, "market;#stalla 5;seller s 1 1;");
        reject(SETUP, 1, "#mar ket;stall a 5;seller s 1 1;");
        reject(SETUP, 1, "market;stall a 5 #0;seller s 1 1;");
        accept(SCRIPT, 2, " days 1 ; rent east 2 ; ");
        accept(SCRIPT, 2, "days1;rent east2;");
        reject(SCRIPT, 1, "#da ys 1;");
        reject(SCRIPT, 1, "days 1 #0;");
    }

    private static void listsMayBeEmptyOrFull() {
        String stalls = "market;" + Check.entries(8, "stall @ 5;");
        Check.equal("empty", 0, accept(SETUP, 1, stalls + "seller s 1 1;").preferenceCount(0));
        StallMarket at = accept(SETUP, 1, stalls + "seller s 1 1 at h;");
        Check.equal("empty with a place", 0, at.preferenceCount(0));
        Check.equal("the place", 7, at.stallOf(0));
        StallMarket full = accept(SETUP, 1, stalls + "seller s 1 1 h a g b f c e d at d;");
        Check.equal("full", "70615243", Check.list(full, 0));
        Check.equal("the place", 3, full.stallOf(0));
        for (char twice = 'a'; twice <= 'h'; twice++) {
            reject(SETUP, 4, stalls + "seller s 1 1 h a g b f c e d #" + twice + ";");
            reject(SETUP, 4, stalls + "seller s 1 1 " + twice + " #" + twice + ";");
            reject(SETUP, 4, stalls + "seller s 1 1 at " + twice + ";seller t 1 1 at #" + twice + ";");
        }
        accept(SETUP, 2, stalls + "seller s 1 1 h a g b f c e d at d;"
                + "seller t 1 1 h a g b f c e d at e;");
    }

    private static void atIsNeverAStall() {
        reject(SETUP, 3, "market;stall #at 1;seller s 1 1;");
        reject(SETUP, 3, "market;stall a 1;stall #at 1;seller s 1 1;");
        reject(SETUP, 1, "market;stall a 1;seller s 1 1 at #at;");
        reject(SETUP, 1, "market;stall a 1;seller s 1 1 a at #at a;");
        reject(SETUP, 1, "market;stall a 1;seller s 1 1 at a #at a;");
        for (String script : new String[] {"assign ann #at;", "prefer ann #at;", "remove ann #at;",
            "rent #at 1;"}) {
            reject(SCRIPT, 1, script);
        }
        for (String script : new String[] {"vacate #at;", "swap #at ann;", "swap ann #at;",
            "assign #at east;", "prefer #at east;", "remove #at east;", "deposit #at 1;"}) {
            reject(SCRIPT, 3, script);
        }
        Check.equal("a stall whose name begins so", "ata",
                Check.stallName(accept(SETUP, 1, "market;stall ata 1;seller at 1 1 ata at ata;"), 0));
    }

    private static void namesAreDistinctWithinTheirKind() {
        for (int first = 0; first < 7; first++) {
            char name = (char) ('a' + first);
            reject(SETUP, 3, "market;" + Check.entries(7, "stall @ 5;") + "stall #" + name + " 5;");
            reject(SETUP, 3, "market;stall z 1;" + Check.entries(7, "seller @ 1 1;") + "seller #" + name
                    + " 1 1;");
        }
        StallMarket x = accept(SETUP, 8, "market;" + Check.entries(8, "stall @ 5;")
                + Check.entries(8, "seller @ 5 5 @ at @;"));
        Check.equal("stalls and sellers of the same names", "01234567", Check.places(x));
    }

    private static void aTextThatEndsTooEarly() {
        String setup = "market ; stall a 5 ; stall b 6 ; seller s 7 8 b a at a ; seller t 1 2 ";
        String script = "assign ann east ; vacate bob ; swap ann bob ; reallocate ; days 9 ; "
                + "rent east 5 ";
        for (int kind : new int[] {SETUP, SCRIPT}) {
            String text = kind == SETUP ? setup : script;
            for (int end = 0; end <= text.length(); end++) {
                String cut = text.substring(0, end);
                boolean whole = cut.isBlank() || cut.trim().endsWith(";");
                boolean valid = whole && (kind == SCRIPT || cut.contains("at a ;"));
                boolean insideWord = end > 0 && end < text.length()
                        && Character.isLetter(text.charAt(end - 1))
                        && Character.isLetter(text.charAt(end));
                if (!valid && !insideWord) {
                    reject(kind, 1, end, cut);
                }
            }
        }
        reject(SETUP, 1, 0, "");
        reject(SETUP, 1, 3, "   ");
        reject(SETUP, 1, 6, "market");
        accept(SCRIPT, 0, "");
    }

    private static void parsingStopsAtTheFirstError() {
        reject(SETUP, 1, "#stall a 100;stall a 1;");
        reject(SETUP, 2, "market;stall a #100;stall a 1;seller abcdefg ?");
        reject(SETUP, 3, "market;stall a 1;stall #a 100;?");
        reject(SETUP, 4, "market;stall a 1;seller s 1 1 a #a b;seller s 10000 100;?");
        reject(SETUP, 3, "market;stall a 1;seller s 1 1 #b a a;");
        reject(SETUP, 5, "market;" + Check.entries(8, "stall @ 5;") + "#stall a 100;?");
        reject(SCRIPT, 1, "days 1;#foo;days 100;vacate nobody;");
        reject(SCRIPT, 2, "days 1;days #100;vacate nobody;?");
        reject(SCRIPT, 3, "days 1;vacate #nobody;days 100;?");
        reject(SCRIPT, 5, "days 1;".repeat(20) + "#days 100;?");
    }

    private static void theSmallestCodeIsReported() {
        // Not allowed, and a number out of range.
        reject(SETUP, 1, "market;stall #10000 1;seller s 1 1;");
        reject(SETUP, 1, "market;stall a 1 #10000;seller s 1 1;");
        reject(SETUP, 1, "market;stall a 1;seller s 1 1 #10000;");
        reject(SCRIPT, 1, "vacate #10000;");
        reject(SCRIPT, 1, "days 1 #10000;");
        // Not allowed, and a name that is too long, unknown or in use.
        reject(SETUP, 1, "market;stall a #abcdefgh;");
        reject(SETUP, 1, "market #abcdefgh;");
        reject(SETUP, 1, "market;stall a 1;seller s #s 1;");
        reject(SETUP, 1, "market;stall a 1;seller s 1 1 at a #abcdefgh;");
        reject(SCRIPT, 1, "#abcdefgh;");
        reject(SCRIPT, 1, "days #abcdefgh;");
        reject(SCRIPT, 1, "vacate ann #abcdefgh;");
        // Not allowed, and no stall of this name.
        reject(SCRIPT, 1, "rent #at 5;");
        // Not allowed, and the first word of a 21st command.
        reject(SCRIPT, 1, "days 1;".repeat(20) + "#day 1;");
        reject(SCRIPT, 1, "days 1;".repeat(20) + "#abcdefgh;");
        // Not allowed behind the sellers, and the word of a 9th stall.
        reject(SETUP, 1, "market;" + Check.entries(8, "stall @ 5;") + "seller s 1 1;#stall i 5;");
    }

    private static void theMostRecentCallReports() {
        StallMarket x = new StallMarket();
        Check.equal("no call yet", 0, x.errorCode());
        Check.equal("no position yet", -1, x.errorPosition());
        Check.equal("a script", -1, read(x, SCRIPT, "days 100;"));
        Check.equal("its code", 2, x.errorCode());
        Check.equal("its position", 5, x.errorPosition());
        Check.equal("a setup", -1, read(x, SETUP, "market;stall at 1;"));
        Check.equal("its code", 3, x.errorCode());
        Check.equal("its position", 13, x.errorPosition());
        Check.equal("a valid script", 0, read(x, SCRIPT, ""));
        Check.equal("no code", 0, x.errorCode());
        Check.equal("no position", -1, x.errorPosition());
        Check.equal("a script again", -1, read(x, SCRIPT, "?"));
        Check.equal("a valid setup", 1, read(x, SETUP, "market;stall a 1;seller s 1 1;"));
        Check.equal("no code", 0, x.errorCode());
        Check.equal("no position", -1, x.errorPosition());
        Check.equal("a script that stops has no error", 0, read(x, SCRIPT, "vacate s;"));
        Check.equal("no code", 0, x.errorCode());
        Check.equal("no position", -1, x.errorPosition());
    }

    private static void theBufferIsEmptyAfterwards() {
        for (String text : new String[] {"", "?", "days 1;", "vacate cid;", "market;", "ann",
            "market;stall a 1;seller s 1 1;"}) {
            for (int kind : new int[] {SETUP, SCRIPT}) {
                StallMarket x = new StallMarket();
                read(x, kind, text);
                Check.equal("the length after " + text, 20, x.appendInput(0, 0, 0, 0, 0));
            }
        }
    }

    private static void findSellerTakesTheWholeBuffer() {
        StallMarket x = Check.market("market;stall a 1;seller b 1 1;seller abcdef 1 1;");
        for (String text : new String[] {"", " ", "b ", " b", "bb", "abcde", "abcdefa", "abcdefb", "a",
            "b;", ";b", "B", "b\0", "\0b", "b\u00ff", "bcdef", "b" + " ".repeat(699),
            "b".repeat(700)}) {
            Check.put(x, text);
            Check.equal("findSeller of " + text, -1, x.findSeller());
            Check.equal("the buffer stays", text.length(), Check.inputLength(x));
        }
        Check.put(x, "b");
        Check.equal("one letter", 0, x.findSeller());
        Check.put(x, "abcdef");
        Check.equal("six letters", 1, x.findSeller());
        Check.equal("the buffer stays", 6, Check.inputLength(x));
    }
}
