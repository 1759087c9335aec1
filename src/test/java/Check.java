/** What the tests share: comparing answers, feeding texts, and the whole visible state as a text. */
final class Check {
    private static int checks = 0;
    private static int wrong = 0;

    private Check() {
    }

    interface Call {
        void make();
    }

    static void equal(String what, Object want, Object got) {
        checks++;
        if (!want.equals(got)) {
            wrong++;
            if (wrong <= 40) {
                System.out.println(what + ": due is " + want + ", but got " + got);
            }
        }
    }

    /** Ends the test with exit code 1 if an answer was wrong, or if nothing was checked. */
    static void finish(String test) {
        System.out.println(test + ": " + checks + " checks, " + wrong + " wrong");
        if (wrong > 0 || checks == 0) {
            System.exit(1);
        }
    }

    static void index(String what, StallMarket x, Call call) {
        refuses(what, IndexOutOfBoundsException.class, x, call);
    }

    static void argument(String what, StallMarket x, Call call) {
        refuses(what, IllegalArgumentException.class, x, call);
    }

    static void state(String what, StallMarket x, Call call) {
        refuses(what, IllegalStateException.class, x, call);
    }

    /** The exception must be of just this class (no machine's own below it) and change nothing. */
    private static void refuses(String what, Class<?> kind, StallMarket x, Call call) {
        String before = stateOf(x);
        Object got = "nothing";
        try {
            call.make();
        } catch (RuntimeException e) {
            got = e.getClass();
        }
        equal(what + " throws", kind, got);
        equal(what + " changes nothing", before, stateOf(x));
    }

    /** Entries a, b, c and so on: "stall a 0;stall b 0;" for two times "stall @ 0;". */
    static String entries(int count, String pattern) {
        StringBuilder text = new StringBuilder();
        for (int i = 0; i < count; i++) {
            text.append(pattern.replace('@', (char) ('a' + i)));
        }
        return text.toString();
    }

    /** Each seller has its own list and place: "b c at a" for the lists "bc" and the places "a". */
    static String setup(int stalls, String[] lists, String places) {
        StringBuilder text = new StringBuilder("market;" + entries(stalls, "stall @ 0;"));
        for (int i = 0; i < lists.length; i++) {
            text.append("seller ").append((char) ('a' + i)).append(" 0 0");
            for (char stall : lists[i].toCharArray()) {
                text.append(' ').append(stall);
            }
            char place = i < places.length() ? places.charAt(i) : '-';
            text.append(place == '-' ? "" : " at " + place).append(';');
        }
        return text.toString();
    }

    static StallMarket market(String setup) {
        StallMarket x = new StallMarket();
        load(x, setup);
        return x;
    }

    static void load(StallMarket x, String setup) {
        put(x, setup);
        x.loadSetup();
        equal("the error code of " + setup, 0, x.errorCode());
    }

    static int run(StallMarket x, String script) {
        put(x, script);
        return x.runScript();
    }

    /** Makes the input buffer hold just this text. */
    static void put(StallMarket x, String text) {
        x.truncateInput(0);
        for (int at = 0; at < text.length(); at += 20) {
            x.appendInput(word(text, at), word(text, at + 4), word(text, at + 8),
                    word(text, at + 12), word(text, at + 16));
        }
        x.truncateInput(text.length());
    }

    static int word(String text, int at) {
        int word = 0;
        for (int i = at; i < at + 4; i++) {
            word = word << 8 | (i < text.length() ? text.charAt(i) & 255 : ' ');
        }
        return word;
    }

    /** Found with few calls: a buffer that takes no more is longer than 680 bytes. */
    static int inputLength(StallMarket x) {
        try {
            return x.truncateInput(x.appendInput(0, 0, 0, 0, 0) - 20);
        } catch (IllegalStateException e) {
            return fullInputLength(x);
        }
    }

    private static int fullInputLength(StallMarket x) {
        for (int length = 700; length > 680; length--) {
            try {
                return x.truncateInput(length);
            } catch (IllegalArgumentException e) {
                // longer than the buffer: the next shorter one may be its length
            }
        }
        return -1;
    }

    static String output(StallMarket x) {
        StringBuilder text = new StringBuilder();
        for (int i = 0; x.outputByte(i) != -1; i++) {
            text.append((char) x.outputByte(i));
        }
        return text.toString();
    }

    static String sellerName(StallMarket x, int seller) {
        StringBuilder text = new StringBuilder();
        for (int i = 0; x.sellerNameByte(seller, i) != -1; i++) {
            text.append((char) x.sellerNameByte(seller, i));
        }
        return text.toString();
    }

    static String stallName(StallMarket x, int stall) {
        StringBuilder text = new StringBuilder();
        for (int i = 0; x.stallNameByte(stall, i) != -1; i++) {
            text.append((char) x.stallNameByte(stall, i));
        }
        return text.toString();
    }

    static String list(StallMarket x, int seller) {
        StringBuilder text = new StringBuilder();
        for (int i = 0; i < x.preferenceCount(seller); i++) {
            text.append(x.preferenceAt(seller, i));
        }
        return text.toString();
    }

    static String places(StallMarket x) {
        StringBuilder text = new StringBuilder();
        for (int seller = 0; seller < x.sellerCount(); seller++) {
            text.append(x.stallOf(seller) == -1 ? "-" : String.valueOf(x.stallOf(seller)));
        }
        return text.toString();
    }

    /** What the reallocation would give to each seller. */
    static String allocated(StallMarket x) {
        StringBuilder text = new StringBuilder();
        for (int seller = 0; seller < x.sellerCount(); seller++) {
            int stall = x.allocatedStall(seller);
            text.append(stall == -1 ? "-" : String.valueOf(stall));
        }
        return text.toString();
    }

    static String order(StallMarket x) {
        StringBuilder text = new StringBuilder();
        for (int seller = 0; seller < x.sellerCount(); seller++) {
            text.append(x.priorityOf(seller));
        }
        return text.toString();
    }

    static String balances(StallMarket x) {
        StringBuilder text = new StringBuilder();
        for (int seller = 0; seller < x.sellerCount(); seller++) {
            text.append(seller == 0 ? "" : " ").append(x.balance(seller));
        }
        return text.toString();
    }

    static String statistics(StallMarket x) {
        return x.rentPaid() + " " + x.evictionCount() + " " + x.swapCount() + " "
                + x.relocationCount();
    }

    /** What undo, save and restore handle. */
    static String marketOf(StallMarket x) {
        StringBuilder text = new StringBuilder();
        text.append("day ").append(x.day()).append(" statistics ").append(statistics(x));
        for (int stall = 0; stall < x.stallCount(); stall++) {
            text.append("; ").append(stallName(x, stall)).append(' ').append(x.rent(stall))
                    .append(" by ").append(x.occupantOf(stall));
        }
        for (int seller = 0; seller < x.sellerCount(); seller++) {
            text.append("; ").append(sellerName(x, seller)).append(' ').append(x.balance(seller))
                    .append(' ').append(x.income(seller)).append(" list ").append(list(x, seller));
        }
        return text + "; places " + places(x) + " order " + order(x) + " ledger "
                + x.ledgerDifference();
    }

    static String stateOf(StallMarket x) {
        return marketOf(x) + "; undo " + x.undoCount() + " error " + x.errorCode() + " at "
                + x.errorPosition() + " output " + output(x) + " input " + inputLength(x)
                + " names seller " + x.findSeller();
    }
}
