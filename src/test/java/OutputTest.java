/** Promises 57 to 59: the output text. */
public final class OutputTest {
    public static void main(String[] args) {
        StallMarket x = new StallMarket();
        Check.equal("writeAssignment", 29, x.writeAssignment());
        Check.equal("the text", "ann:east bob:west cid:- dot:-", Check.output(x));
        Check.equal("writePreferences", 15, x.writePreferences(3));
        Check.equal("the text is replaced", "south>east>west", Check.output(x));
        Check.equal("the first byte", (int) 's', x.outputByte(0));
        Check.equal("the last byte", (int) 't', x.outputByte(14));
        for (int bad : new int[] {-1, 15, 28, 699, 700, Integer.MAX_VALUE, Integer.MIN_VALUE}) {
            Check.equal("outputByte " + bad, -1, x.outputByte(bad));
        }
        for (int bad : new int[] {-1, 4, Integer.MAX_VALUE, Integer.MIN_VALUE}) {
            Check.index("writePreferences " + bad, x, () -> x.writePreferences(bad));
        }
        x.removePreference(0, 0);
        Check.equal("one stall", 4, x.writePreferences(0));
        Check.equal("without a sign", "west", Check.output(x));
        x.removePreference(0, 1);
        Check.equal("an empty list", 0, x.writePreferences(0));
        Check.equal("an empty text", -1, x.outputByte(0));
        Check.equal("undoCount", 2, x.undoCount());
        x.writeAssignment();
        Check.equal("twice is once", 29, x.writeAssignment());
        x.reallocate();
        x.undo();
        x.save();
        x.restore();
        Check.equal("other calls keep the text", "ann:east bob:west cid:- dot:-",
                Check.output(x));
        longestTexts();
        Check.finish("OutputTest");
    }

    private static void longestTexts() {
        StallMarket x = Check.market("market;stall aaaaaa 0;stall bbbbbb 0;stall cccccc 0;"
                + "stall dddddd 0;stall eeeeee 0;stall ffffff 0;stall gggggg 0;stall hhhhhh 0;"
                + "seller aaaaaa 0 0 hhhhhh gggggg ffffff eeeeee dddddd cccccc bbbbbb aaaaaa at "
                + "hhhhhh;seller bbbbbb 0 0 at gggggg;seller cccccc 0 0 at ffffff;"
                + "seller dddddd 0 0 at eeeeee;seller eeeeee 0 0 at dddddd;"
                + "seller ffffff 0 0 at cccccc;seller gggggg 0 0 at bbbbbb;"
                + "seller hhhhhh 0 0 at aaaaaa;");
        Check.equal("the longest assignment", 111, x.writeAssignment());
        Check.equal("its text", "aaaaaa:hhhhhh bbbbbb:gggggg cccccc:ffffff dddddd:eeeeee "
                + "eeeeee:dddddd ffffff:cccccc gggggg:bbbbbb hhhhhh:aaaaaa", Check.output(x));
        Check.equal("the longest list", 55, x.writePreferences(0));
        Check.equal("its text", "hhhhhh>gggggg>ffffff>eeeeee>dddddd>cccccc>bbbbbb>aaaaaa",
                Check.output(x));
    }
}
