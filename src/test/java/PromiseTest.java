/** A test for each promise of the document, and its four examples. */
public final class PromiseTest {
    private static final int ARGUMENT = -11;
    private static final int STATE = -12;
    private static final int LIMIT = -13;
    private static final int MISSING = -14;

    private static final int[] ABSURD = {Integer.MIN_VALUE, -1000, 1000, 10000, Integer.MAX_VALUE};

    private static String test = "";

    private PromiseTest() {
    }

    public static void main(String[] args) {
        exampleOne();
        exampleTwo();
        exampleThree();
        exampleFour();
        constants();
        newObject();
        setGlyphWidth();
        setGlyphColumn();
        glyphColumn();
        append();
        clearText();
        insertMessage();
        removeMessage();
        setColor();
        messageWidth();
        messageStart();
        setColumns();
        setGap();
        setSpeed();
        setShift();
        setBudget();
        setDefective();
        tick();
        offset();
        stripLength();
        period();
        ticksUntilWhole();
        pixel();
        load();
        brightness();
        peakLoad();
        peakOffset();
        damage();
        adoptBestShift();
        Due.end();
    }

    private static void due(String call, int got, int want) {
        Due.due(test + ": " + call, got, want);
    }

    // ---- the examples

    private static void exampleOne() {
        test = "example 1";
        MarqueeDisplay x = new MarqueeDisplay();
        due("append(0)", x.append(0), 1);
        due("append(1)", x.append(1), 2);
        due("insertMessage(0, 1)", x.insertMessage(0, 1), 12);
        due("messageWidth(0)", x.messageWidth(0), 8);
        due("glyphColumn(0, 0)", x.glyphColumn(0, 0), 58);
        due("pixel(1, 0)", x.pixel(1, 0), 1);
        due("load()", x.load(), 39);
        due("brightness()", x.brightness(), 15);
        due("ticksUntilWhole(0)", x.ticksUntilWhole(0), 0);
    }

    private static void exampleTwo() {
        test = "example 2";
        MarqueeDisplay x = new MarqueeDisplay();
        due("insertMessage(0, 1)", x.insertMessage(0, 1), STATE);
        due("append(23)", x.append(23), 1);
        due("insertMessage(0, 4)", x.insertMessage(0, 4), ARGUMENT);
        due("insertMessage(0, 3)", x.insertMessage(0, 3), 9);
        due("stripLength()", x.stripLength(), 9);
        due("tick(3)", x.tick(3), 1);
        due("offset()", x.offset(), 1);
        due("period()", x.period(), 18);
    }

    private static void exampleThree() {
        test = "example 3";
        MarqueeDisplay x = new MarqueeDisplay();
        due("append(0)", x.append(0), 1);
        due("insertMessage(0, 2)", x.insertMessage(0, 2), 7);
        due("setGlyphWidth(0, 1)", x.setGlyphWidth(0, 1), 3);
        due("setGlyphColumn(0, 0, 255)", x.setGlyphColumn(0, 0, 255), 58);
        due("damage(1)", x.damage(1), 4);
        due("setDefective(0, 0, true)", x.setDefective(0, 0, true), 1);
        due("adoptBestShift()", x.adoptBestShift(), 1);
        due("load()", x.load(), 31);
    }

    private static void exampleFour() {
        test = "example 4";
        MarqueeDisplay x = new MarqueeDisplay();
        int[] helloWorld = {7, 4, 11, 11, 14, 26, 22, 14, 17, 11, 3};
        for (int i = 0; i < helloWorld.length; i++) {
            due("append(" + helloWorld[i] + ")", x.append(helloWorld[i]), i + 1);
        }
        due("insertMessage(0, 3)", x.insertMessage(0, 3), 61);
        due("messageWidth(0)", x.messageWidth(0), 57);
        due("ticksUntilWhole(0)", x.ticksUntilWhole(0), MISSING);
        due("ticksUntilWhole(1)", x.ticksUntilWhole(1), ARGUMENT);
    }

    private static void constants() {
        test = "constants";
        due("INVALID_ARGUMENT", MarqueeDisplay.INVALID_ARGUMENT, ARGUMENT);
        due("INVALID_STATE", MarqueeDisplay.INVALID_STATE, STATE);
        due("LIMIT_REACHED", MarqueeDisplay.LIMIT_REACHED, LIMIT);
        due("NOT_FOUND", MarqueeDisplay.NOT_FOUND, MISSING);
    }

    // ---- the promises, in their order

    private static void newObject() {
        test = "promise 1";
        MarqueeDisplay x = new MarqueeDisplay();
        for (int c = 0; c < 26; c++) {
            int width = 3 + c % 3;
            for (int j = 0; j < 6; j++) {
                int want = j < width ? ((c + 1) * (j + 2) * 29 + 17 * j) % 256 : MISSING;
                due("glyphColumn(" + c + ", " + j + ")", x.glyphColumn(c, j), want);
            }
        }
        due("glyphColumn(26, 0)", x.glyphColumn(26, 0), 0);
        due("glyphColumn(26, 1)", x.glyphColumn(26, 1), 0);
        due("glyphColumn(26, 2)", x.glyphColumn(26, 2), MISSING);
        due("offset()", x.offset(), 0);
        due("stripLength()", x.stripLength(), 0);
        due("period()", x.period(), 0);
        due("load()", x.load(), 0);
        due("brightness()", x.brightness(), 15);
        due("peakLoad()", x.peakLoad(), 0);
        due("peakOffset()", x.peakOffset(), MISSING);
        for (int row = 0; row < 8; row++) {
            for (int column = 0; column < 16; column++) {
                due("pixel(" + row + ", " + column + ")", x.pixel(row, column), 0);
                due("setDefective(.., false)", x.setDefective(row, column, false), STATE);
            }
        }
        due("insertMessage(0, 1)", x.insertMessage(0, 1), STATE);
        due("messageWidth(0)", x.messageWidth(0), ARGUMENT);
        due("clearText()", x.clearText(), 0);
        due("setColumns(16)", x.setColumns(16), 16);
        due("setGap(4)", x.setGap(4), 4);
        due("setSpeed(2)", x.setSpeed(2), 2);
        due("setShift(0)", x.setShift(0), 0);
        due("setBudget(60)", x.setBudget(60), 60);
        MarqueeDisplay other = Displays.withText(3, 4);
        other.insertMessage(0, 1);
        due("stripLength() beside another object", x.stripLength(), 0);
    }

    private static void setGlyphWidth() {
        test = "promise 2";
        MarqueeDisplay x = Displays.withText(0, 0);
        for (int wrong : ABSURD) {
            due("setGlyphWidth(" + wrong + ", 1)", x.setGlyphWidth(wrong, 1), ARGUMENT);
            due("setGlyphWidth(0, " + wrong + ")", x.setGlyphWidth(0, wrong), ARGUMENT);
        }
        due("setGlyphWidth(-1, 1)", x.setGlyphWidth(-1, 1), ARGUMENT);
        due("setGlyphWidth(27, 1)", x.setGlyphWidth(27, 1), ARGUMENT);
        due("setGlyphWidth(0, 0)", x.setGlyphWidth(0, 0), ARGUMENT);
        due("setGlyphWidth(0, 7)", x.setGlyphWidth(0, 7), ARGUMENT);
        due("setGlyphWidth(26, 6)", x.setGlyphWidth(26, 6), 2);
        due("setGlyphWidth(26, 6) again", x.setGlyphWidth(26, 6), 6);
        x.insertMessage(0, 1);
        due("setGlyphWidth(0, 5)", x.setGlyphWidth(0, 5), 3);
        due("messageWidth(0) when wider", x.messageWidth(0), 11);
        due("stripLength() when wider", x.stripLength(), 15);
        due("glyphColumn(0, 2) kept", x.glyphColumn(0, 2), 150);
        due("glyphColumn(0, 3) new", x.glyphColumn(0, 3), 0);
        due("glyphColumn(0, 4) new", x.glyphColumn(0, 4), 0);
        due("glyphColumn(0, 5)", x.glyphColumn(0, 5), MISSING);
        due("setGlyphWidth(0, 1)", x.setGlyphWidth(0, 1), 5);
        due("setGlyphWidth(0, 3)", x.setGlyphWidth(0, 3), 1);
        due("glyphColumn(0, 0) kept", x.glyphColumn(0, 0), 58);
        due("glyphColumn(0, 1) after it was gone", x.glyphColumn(0, 1), 0);
        due("glyphColumn(0, 2) after it was gone", x.glyphColumn(0, 2), 0);
        due("glyphColumn(1, 0) of another", x.glyphColumn(1, 0), 116);
        x.tick(20);
        due("offset() before", x.offset(), 10);
        due("setGlyphWidth(0, 3) as it is", x.setGlyphWidth(0, 3), 3);
        due("offset() with the same length", x.offset(), 10);
        due("setGlyphWidth(0, 4)", x.setGlyphWidth(0, 4), 3);
        due("offset() with a longer strip", x.offset(), 10);
        due("setGlyphWidth(0, 3)", x.setGlyphWidth(0, 3), 4);
        due("offset() that is still less", x.offset(), 10);
        due("setGlyphWidth(0, 2)", x.setGlyphWidth(0, 2), 3);
        due("offset() that is not less", x.offset(), 0);
    }

    private static void setGlyphColumn() {
        test = "promise 3";
        MarqueeDisplay x = Displays.withText(0);
        x.insertMessage(0, 2);
        for (int wrong : ABSURD) {
            due("setGlyphColumn(" + wrong + ", 0, 0)", x.setGlyphColumn(wrong, 0, 0), ARGUMENT);
            due("setGlyphColumn(0, " + wrong + ", 0)", x.setGlyphColumn(0, wrong, 0), ARGUMENT);
            due("setGlyphColumn(0, 0, " + wrong + ")", x.setGlyphColumn(0, 0, wrong), ARGUMENT);
        }
        due("setGlyphColumn(-1, 0, 0)", x.setGlyphColumn(-1, 0, 0), ARGUMENT);
        due("setGlyphColumn(27, 0, 0)", x.setGlyphColumn(27, 0, 0), ARGUMENT);
        due("setGlyphColumn(0, -1, 0)", x.setGlyphColumn(0, -1, 0), ARGUMENT);
        due("setGlyphColumn(0, 3, 0)", x.setGlyphColumn(0, 3, 0), ARGUMENT);
        due("setGlyphColumn(0, 0, -1)", x.setGlyphColumn(0, 0, -1), ARGUMENT);
        due("setGlyphColumn(0, 0, 256)", x.setGlyphColumn(0, 0, 256), ARGUMENT);
        due("setGlyphColumn(26, 2, 1)", x.setGlyphColumn(26, 2, 1), ARGUMENT);
        due("glyphColumn(0, 0) untouched", x.glyphColumn(0, 0), 58);
        due("setGlyphColumn(0, 2, 129)", x.setGlyphColumn(0, 2, 129), 150);
        due("setGlyphColumn(0, 2, 129) again", x.setGlyphColumn(0, 2, 129), 129);
        due("glyphColumn(0, 2)", x.glyphColumn(0, 2), 129);
        due("glyphColumn(0, 1) beside it", x.glyphColumn(0, 1), 104);
        due("pixel(0, 2)", x.pixel(0, 2), 2);
        due("pixel(1, 2)", x.pixel(1, 2), 0);
        due("pixel(7, 2)", x.pixel(7, 2), 2);
        due("setGlyphColumn(26, 1, 255)", x.setGlyphColumn(26, 1, 255), 0);
        due("setGlyphColumn(26, 1, 0)", x.setGlyphColumn(26, 1, 0), 255);
        due("stripLength()", x.stripLength(), 7);
    }

    private static void glyphColumn() {
        test = "promise 4";
        MarqueeDisplay x = new MarqueeDisplay();
        for (int wrong : ABSURD) {
            due("glyphColumn(" + wrong + ", 0)", x.glyphColumn(wrong, 0), ARGUMENT);
            due("glyphColumn(0, " + wrong + ")", x.glyphColumn(0, wrong), ARGUMENT);
        }
        due("glyphColumn(-1, 0)", x.glyphColumn(-1, 0), ARGUMENT);
        due("glyphColumn(27, 0)", x.glyphColumn(27, 0), ARGUMENT);
        due("glyphColumn(27, 5)", x.glyphColumn(27, 5), ARGUMENT);
        due("glyphColumn(0, -1)", x.glyphColumn(0, -1), ARGUMENT);
        due("glyphColumn(0, 6)", x.glyphColumn(0, 6), ARGUMENT);
        due("glyphColumn(0, 3)", x.glyphColumn(0, 3), MISSING);
        due("glyphColumn(0, 5)", x.glyphColumn(0, 5), MISSING);
        due("glyphColumn(2, 4)", x.glyphColumn(2, 4), 78);
        due("glyphColumn(25, 3)", x.glyphColumn(25, 3), 237);
        due("glyphColumn(25, 4)", x.glyphColumn(25, 4), MISSING);
    }

    private static void append() {
        test = "promise 5";
        MarqueeDisplay x = new MarqueeDisplay();
        for (int wrong : ABSURD) {
            due("append(" + wrong + ")", x.append(wrong), ARGUMENT);
        }
        due("append(-1)", x.append(-1), ARGUMENT);
        due("append(27)", x.append(27), ARGUMENT);
        due("append(26)", x.append(26), 1);
        for (int length = 2; length <= 12; length++) {
            due("append(25)", x.append(25), length);
        }
        due("append(0) to 12", x.append(0), LIMIT);
        due("append(27) to 12", x.append(27), ARGUMENT);
        due("insertMessage(0, 1)", x.insertMessage(0, 1), 2 + 11 * 4 + 11 + 4);
        due("clearText()", x.clearText(), 12);
        due("append(0)", x.append(0), 1);
    }

    private static void clearText() {
        test = "promise 6";
        MarqueeDisplay x = Displays.withText(1, 2, 3);
        x.insertMessage(0, 1);
        due("clearText()", x.clearText(), 3);
        due("clearText() again", x.clearText(), 0);
        due("messageWidth(0) of a message made before", x.messageWidth(0), 14);
        due("insertMessage(0, 1)", x.insertMessage(0, 1), STATE);
        due("append(26)", x.append(26), 1);
        due("insertMessage(0, 1)", x.insertMessage(0, 1), 18 + 6);
    }

    private static void insertMessage() {
        test = "promise 7";
        MarqueeDisplay x = new MarqueeDisplay();
        due("insertMessage(1, 1)", x.insertMessage(1, 1), ARGUMENT);
        due("insertMessage(-1, 1)", x.insertMessage(-1, 1), ARGUMENT);
        due("insertMessage(0, 0)", x.insertMessage(0, 0), ARGUMENT);
        due("insertMessage(0, 1) without text", x.insertMessage(0, 1), STATE);
        x.append(0);
        for (int wrong : ABSURD) {
            due("insertMessage(" + wrong + ", 1)", x.insertMessage(wrong, 1), ARGUMENT);
            due("insertMessage(0, " + wrong + ")", x.insertMessage(0, wrong), ARGUMENT);
        }
        due("insertMessage(0, 1)", x.insertMessage(0, 1), 7);
        due("append(1) to the kept text", x.append(1), 2);
        due("insertMessage(0, 2) before it", x.insertMessage(0, 2), 7 + 12);
        due("append(2) to the kept text", x.append(2), 3);
        due("insertMessage(1, 3) between", x.insertMessage(1, 3), 7 + 12 + 18);
        due("messageWidth(0)", x.messageWidth(0), 8);
        due("messageWidth(1)", x.messageWidth(1), 14);
        due("messageWidth(2)", x.messageWidth(2), 3);
        due("setColor(0, 2)", x.setColor(0, 2), 2);
        due("setColor(1, 3)", x.setColor(1, 3), 3);
        due("setColor(2, 1)", x.setColor(2, 1), 1);
        due("insertMessage(4, 1)", x.insertMessage(4, 1), ARGUMENT);
        due("insertMessage(3, 1) behind all", x.insertMessage(3, 1), 37 + 18);
        due("insertMessage(4, 1)", x.insertMessage(4, 1), 55 + 18);
        due("insertMessage(5, 1)", x.insertMessage(5, 1), 73 + 18);
        due("insertMessage(6, 1) to 6", x.insertMessage(6, 1), LIMIT);
        due("insertMessage(0, 1) to 6", x.insertMessage(0, 1), LIMIT);
        due("insertMessage(7, 1) to 6", x.insertMessage(7, 1), ARGUMENT);
        due("insertMessage(0, 4) to 6", x.insertMessage(0, 4), ARGUMENT);
        due("stripLength()", x.stripLength(), 91);
        x.clearText();
        due("insertMessage(0, 1) to 6 without text", x.insertMessage(0, 1), STATE);
        x.removeMessage(5);
        x.append(26);
        x.tick(100);
        due("insertMessage(5, 1)", x.insertMessage(5, 1), 73 + 6);
        due("offset() kept", x.offset(), 50);
    }

    private static void removeMessage() {
        test = "promise 8";
        MarqueeDisplay x = new MarqueeDisplay();
        due("removeMessage(0) of none", x.removeMessage(0), ARGUMENT);
        for (int i = 0; i < 3; i++) {
            x.append(26);
            x.insertMessage(i, i + 1);
        }
        for (int wrong : ABSURD) {
            due("removeMessage(" + wrong + ")", x.removeMessage(wrong), ARGUMENT);
        }
        due("removeMessage(-1)", x.removeMessage(-1), ARGUMENT);
        due("removeMessage(3)", x.removeMessage(3), ARGUMENT);
        due("stripLength()", x.stripLength(), 6 + 9 + 12);
        x.tick(2 * 17);
        due("removeMessage(1)", x.removeMessage(1), 18);
        due("offset() that is still less", x.offset(), 17);
        due("messageWidth(0)", x.messageWidth(0), 2);
        due("messageWidth(1)", x.messageWidth(1), 8);
        due("messageStart(1)", x.messageStart(1), 6);
        due("setColor(1, 3)", x.setColor(1, 3), 3);
        due("removeMessage(2)", x.removeMessage(2), ARGUMENT);
        due("removeMessage(0)", x.removeMessage(0), 12);
        due("offset() that is not less", x.offset(), 0);
        due("setColor(0, 3)", x.setColor(0, 3), 3);
        due("removeMessage(0), the last one", x.removeMessage(0), 0);
        due("offset()", x.offset(), 0);
        Displays.setText(x, 0);
        for (int i = 0; i < 6; i++) {
            due("insertMessage again", x.insertMessage(0, 2), 7 * (i + 1));
        }
        for (int i = 0; i < 6; i++) {
            due("messageStart(" + i + ") of messages put again", x.messageStart(i), 7 * i);
        }
        due("setColor(3, 1)", x.setColor(3, 1), 2);
        due("setColor(4, 1) of the next one", x.setColor(4, 1), 2);
        due("removeMessage(2)", x.removeMessage(2), 35);
        due("setColor(2, 1) of one moved down", x.setColor(2, 1), 1);
        due("setColor(4, 1) of one moved down", x.setColor(4, 1), 2);
    }

    private static void setColor() {
        test = "promise 9";
        MarqueeDisplay x = Displays.withSameColumns(1, 1);
        for (int wrong : ABSURD) {
            due("setColor(" + wrong + ", 1)", x.setColor(wrong, 1), ARGUMENT);
            due("setColor(0, " + wrong + ")", x.setColor(0, wrong), ARGUMENT);
        }
        due("setColor(-1, 1)", x.setColor(-1, 1), ARGUMENT);
        due("setColor(1, 1)", x.setColor(1, 1), ARGUMENT);
        due("setColor(0, 0)", x.setColor(0, 0), ARGUMENT);
        due("setColor(0, 4)", x.setColor(0, 4), ARGUMENT);
        due("pixel(0, 0)", x.pixel(0, 0), 1);
        due("setColor(0, 3)", x.setColor(0, 3), 1);
        due("pixel(0, 0)", x.pixel(0, 0), 3);
        due("setColor(0, 2)", x.setColor(0, 2), 3);
        due("pixel(0, 0)", x.pixel(0, 0), 2);
        x.insertMessage(1, 3);
        due("pixel(0, 1)", x.pixel(0, 1), 3);
        due("setColor(1, 1)", x.setColor(1, 1), 3);
        due("pixel(0, 0)", x.pixel(0, 0), 2);
        due("pixel(0, 1)", x.pixel(0, 1), 1);
    }

    private static void messageWidth() {
        test = "promise 10";
        MarqueeDisplay x = Displays.withText(2);
        due("messageWidth(0) of none", x.messageWidth(0), ARGUMENT);
        x.insertMessage(0, 1);
        for (int wrong : ABSURD) {
            due("messageWidth(" + wrong + ")", x.messageWidth(wrong), ARGUMENT);
        }
        due("messageWidth(-1)", x.messageWidth(-1), ARGUMENT);
        due("messageWidth(1)", x.messageWidth(1), ARGUMENT);
        due("messageWidth(0) of one character", x.messageWidth(0), 5);
        Displays.setText(x, 2, 26, 0, 1);
        x.insertMessage(1, 1);
        due("messageWidth(1)", x.messageWidth(1), 5 + 2 + 3 + 4 + 3);
        x.setGap(9);
        due("messageWidth(1) is without the gap", x.messageWidth(1), 17);
        x.setGlyphWidth(26, 6);
        due("messageWidth(1) with a wider glyph", x.messageWidth(1), 21);
        due("messageWidth(0) without that glyph", x.messageWidth(0), 5);
        Displays.setText(x, 26, 26, 26, 26, 26, 26, 26, 26, 26, 26, 26, 26);
        x.insertMessage(0, 1);
        due("messageWidth(0), the greatest", x.messageWidth(0), 83);
    }

    private static void messageStart() {
        test = "promise 11";
        MarqueeDisplay x = Displays.withText(0);
        due("messageStart(0) of none", x.messageStart(0), ARGUMENT);
        x.insertMessage(0, 1);
        for (int wrong : ABSURD) {
            due("messageStart(" + wrong + ")", x.messageStart(wrong), ARGUMENT);
        }
        due("messageStart(-1)", x.messageStart(-1), ARGUMENT);
        due("messageStart(1)", x.messageStart(1), ARGUMENT);
        due("messageStart(0)", x.messageStart(0), 0);
        x.append(1);
        x.insertMessage(1, 1);
        x.insertMessage(2, 1);
        due("messageStart(1)", x.messageStart(1), 7);
        due("messageStart(2)", x.messageStart(2), 19);
        x.tick(9);
        due("messageStart(1) after ticks", x.messageStart(1), 7);
        x.setGap(0);
        due("messageStart(1) without a gap", x.messageStart(1), 3);
        due("messageStart(2) without a gap", x.messageStart(2), 11);
        x.setGlyphWidth(0, 6);
        due("messageStart(2) with a wider glyph", x.messageStart(2), 17);
        x.removeMessage(0);
        due("messageStart(1) after a removal", x.messageStart(1), 11);
        due("messageStart(2) after a removal", x.messageStart(2), ARGUMENT);
    }

    private static void setColumns() {
        test = "promise 12";
        MarqueeDisplay x = Displays.withSameColumns(1, 1);
        for (int wrong : ABSURD) {
            due("setColumns(" + wrong + ")", x.setColumns(wrong), ARGUMENT);
        }
        due("setColumns(7)", x.setColumns(7), ARGUMENT);
        due("setColumns(33)", x.setColumns(33), ARGUMENT);
        due("load()", x.load(), 16);
        due("setColumns(32)", x.setColumns(32), 16);
        due("load()", x.load(), 32);
        due("pixel(0, 31)", x.pixel(0, 31), 1);
        due("setDefective(0, 31, true)", x.setDefective(0, 31, true), 1);
        due("setDefective(0, 8, true)", x.setDefective(0, 8, true), 2);
        due("setDefective(0, 7, true)", x.setDefective(0, 7, true), 3);
        due("setColumns(32) as it is", x.setColumns(32), 32);
        due("pixel(0, 31) still defective", x.pixel(0, 31), 0);
        due("setColumns(8)", x.setColumns(8), 32);
        due("pixel(0, 8)", x.pixel(0, 8), ARGUMENT);
        due("load()", x.load(), 7);
        due("setDefective(1, 0, true)", x.setDefective(1, 0, true), 2);
        due("setColumns(32)", x.setColumns(32), 8);
        due("pixel(0, 7) still defective", x.pixel(0, 7), 0);
        due("pixel(0, 8) forgotten", x.pixel(0, 8), 1);
        due("pixel(0, 31) forgotten", x.pixel(0, 31), 1);
        due("setDefective(0, 31, false)", x.setDefective(0, 31, false), STATE);
        due("load()", x.load(), 31);
    }

    private static void setGap() {
        test = "promise 13";
        MarqueeDisplay x = Displays.withText(26);
        for (int wrong : ABSURD) {
            due("setGap(" + wrong + ")", x.setGap(wrong), ARGUMENT);
        }
        due("setGap(-1)", x.setGap(-1), ARGUMENT);
        due("setGap(10)", x.setGap(10), ARGUMENT);
        x.insertMessage(0, 1);
        x.insertMessage(1, 1);
        due("stripLength()", x.stripLength(), 12);
        due("setGap(9)", x.setGap(9), 4);
        due("stripLength()", x.stripLength(), 22);
        x.tick(2 * 11 + 1);
        due("setGap(4)", x.setGap(4), 9);
        due("offset() that is still less", x.offset(), 11);
        due("tick(1) with the counter kept", x.tick(1), 0);
        x.tick(2 * 10);
        due("offset()", x.offset(), 10);
        due("setGap(3), to a length of 10", x.setGap(3), 4);
        due("offset() that is just not less", x.offset(), 0);
        due("setGap(4)", x.setGap(4), 3);
        x.tick(2 * 9);
        due("setGap(3), to a length of 10", x.setGap(3), 4);
        due("offset() that is just less", x.offset(), 9);
        due("setGap(1)", x.setGap(1), 3);
        due("offset() that is not less", x.offset(), 0);
        due("setGap(3)", x.setGap(3), 1);
        due("setGap(0)", x.setGap(0), 3);
        due("stripLength()", x.stripLength(), 4);
        due("messageStart(1)", x.messageStart(1), 2);
    }

    private static void setSpeed() {
        test = "promise 14";
        MarqueeDisplay x = Displays.withText(0);
        x.insertMessage(0, 1);
        for (int wrong : ABSURD) {
            due("setSpeed(" + wrong + ")", x.setSpeed(wrong), ARGUMENT);
        }
        due("setSpeed(0)", x.setSpeed(0), ARGUMENT);
        due("setSpeed(10)", x.setSpeed(10), ARGUMENT);
        due("setSpeed(9)", x.setSpeed(9), 2);
        due("tick(8)", x.tick(8), 0);
        due("setSpeed(10)", x.setSpeed(10), ARGUMENT);
        due("tick(1) after an error", x.tick(1), 1);
        due("tick(8)", x.tick(8), 1);
        due("setSpeed(9) as it is", x.setSpeed(9), 9);
        due("tick(8) with the counter at 0", x.tick(8), 1);
        due("tick(1)", x.tick(1), 2);
        due("setSpeed(1)", x.setSpeed(1), 9);
        due("tick(1)", x.tick(1), 3);
        due("period()", x.period(), 7);
    }

    private static void setShift() {
        test = "promise 15";
        MarqueeDisplay x = Displays.withSameColumns(0b01000010, 1);
        for (int wrong : ABSURD) {
            due("setShift(" + wrong + ")", x.setShift(wrong), ARGUMENT);
        }
        due("setShift(-3)", x.setShift(-3), ARGUMENT);
        due("setShift(3)", x.setShift(3), ARGUMENT);
        due("pixel(1, 0)", x.pixel(1, 0), 1);
        due("setShift(1)", x.setShift(1), 0);
        due("pixel(2, 0)", x.pixel(2, 0), 1);
        due("pixel(7, 0)", x.pixel(7, 0), 1);
        due("setShift(2)", x.setShift(2), 1);
        due("pixel(3, 0)", x.pixel(3, 0), 1);
        due("load() with a row lost below", x.load(), 16);
        due("setShift(-1)", x.setShift(-1), 2);
        due("pixel(0, 0)", x.pixel(0, 0), 1);
        due("pixel(5, 0)", x.pixel(5, 0), 1);
        due("setShift(-2)", x.setShift(-2), -1);
        due("pixel(4, 0)", x.pixel(4, 0), 1);
        due("load() with a row lost above", x.load(), 16);
        due("setShift(0)", x.setShift(0), -2);
        due("load()", x.load(), 32);
    }

    private static void setBudget() {
        test = "promise 16";
        MarqueeDisplay x = Displays.withSameColumns(1, 1);
        for (int wrong : ABSURD) {
            due("setBudget(" + wrong + ")", x.setBudget(wrong), ARGUMENT);
        }
        due("setBudget(0)", x.setBudget(0), ARGUMENT);
        due("setBudget(1000)", x.setBudget(1000), ARGUMENT);
        due("setBudget(999)", x.setBudget(999), 60);
        due("setBudget(1)", x.setBudget(1), 999);
        due("brightness()", x.brightness(), 0);
        due("setBudget(2)", x.setBudget(2), 1);
        due("brightness()", x.brightness(), 1);
    }

    private static void setDefective() {
        test = "promise 17";
        MarqueeDisplay x = Displays.withSameColumns(255, 1);
        for (int wrong : ABSURD) {
            due("setDefective(" + wrong + ", 0, true)", x.setDefective(wrong, 0, true), ARGUMENT);
            due("setDefective(0, " + wrong + ", true)", x.setDefective(0, wrong, true), ARGUMENT);
        }
        due("setDefective(-1, 0, true)", x.setDefective(-1, 0, true), ARGUMENT);
        due("setDefective(8, 0, true)", x.setDefective(8, 0, true), ARGUMENT);
        due("setDefective(0, -1, true)", x.setDefective(0, -1, true), ARGUMENT);
        due("setDefective(0, 16, true)", x.setDefective(0, 16, true), ARGUMENT);
        due("setDefective(0, 16, false)", x.setDefective(0, 16, false), ARGUMENT);
        due("setDefective(0, 0, false)", x.setDefective(0, 0, false), STATE);
        due("setDefective(0, 0, true)", x.setDefective(0, 0, true), 1);
        due("setDefective(0, 0, true) again", x.setDefective(0, 0, true), STATE);
        due("setDefective(7, 15, true)", x.setDefective(7, 15, true), 2);
        due("setDefective(7, 0, true)", x.setDefective(7, 0, true), 3);
        due("pixel(0, 0)", x.pixel(0, 0), 0);
        due("pixel(1, 0)", x.pixel(1, 0), 1);
        due("pixel(0, 15)", x.pixel(0, 15), 1);
        due("pixel(7, 15)", x.pixel(7, 15), 0);
        due("load()", x.load(), 125);
        due("setDefective(0, 0, false)", x.setDefective(0, 0, false), 2);
        due("pixel(0, 0)", x.pixel(0, 0), 1);
        due("setDefective(7, 0, false)", x.setDefective(7, 0, false), 1);
        due("setDefective(7, 15, false)", x.setDefective(7, 15, false), 0);
        due("load()", x.load(), 128);
    }

    private static void tick() {
        test = "promise 18";
        MarqueeDisplay x = Displays.withText(0);
        for (int wrong : ABSURD) {
            int want = isTickCount(wrong) ? 0 : ARGUMENT;
            due("tick(" + wrong + ")", x.tick(wrong), want);
        }
        due("tick(-1)", x.tick(-1), ARGUMENT);
        due("tick(1) on an empty strip", x.tick(1), 0);
        due("insertMessage(0, 1)", x.insertMessage(0, 1), 7);
        due("tick(0)", x.tick(0), 0);
        due("tick(1) that ends the move begun on the empty strip", x.tick(1), 1);
        due("tick(11)", x.tick(11), 6);
        due("tick(1) round", x.tick(1), 0);
        due("tick(13)", x.tick(13), 6);
        due("tick(14), a period", x.tick(14), 6);
        due("tick(9999)", x.tick(9999), (6 + (1 + 9999) / 2) % 7);
        due("tick(10000)", x.tick(10000), ARGUMENT);
        due("offset() after an error", x.offset(), (6 + 5000) % 7);
        x.setSpeed(9);
        int offset = (6 + 5000) % 7;
        for (int i = 1; i <= 40; i++) {
            due("tick(4)", x.tick(4), (offset + 4 * i / 9) % 7);
        }
    }

    private static boolean isTickCount(int ticks) {
        return ticks >= 0 && ticks <= 9999;
    }

    private static void offset() {
        test = "promise 19";
        MarqueeDisplay x = Displays.withText(0);
        due("offset()", x.offset(), 0);
        x.insertMessage(0, 1);
        x.tick(1);
        due("offset() before a move", x.offset(), 0);
        x.tick(1);
        due("offset() after a move", x.offset(), 1);
        due("offset() again", x.offset(), 1);
        x.tick(12);
        due("offset() after a round", x.offset(), 0);
        x.tick(6);
        x.setColumns(32);
        x.setSpeed(3);
        x.setColor(0, 2);
        x.setShift(1);
        due("offset() after edits of other things", x.offset(), 3);
        x.removeMessage(0);
        due("offset() on an empty strip", x.offset(), 0);
    }

    private static void stripLength() {
        test = "promise 20";
        MarqueeDisplay x = Displays.withText(0);
        due("stripLength()", x.stripLength(), 0);
        x.insertMessage(0, 1);
        due("stripLength()", x.stripLength(), 7);
        x.append(1);
        due("stripLength() after append", x.stripLength(), 7);
        x.insertMessage(0, 1);
        due("stripLength()", x.stripLength(), 19);
        x.setGap(0);
        due("stripLength()", x.stripLength(), 11);
        x.removeMessage(1);
        due("stripLength()", x.stripLength(), 8);
        x.removeMessage(0);
        due("stripLength()", x.stripLength(), 0);
        Displays.setText(x, 26, 26, 26, 26, 26, 26, 26, 26, 26, 26, 26, 26);
        for (int i = 0; i < 6; i++) {
            x.insertMessage(i, 1);
        }
        x.setGap(9);
        x.setGlyphWidth(26, 6);
        due("stripLength(), the greatest", x.stripLength(), 552);
    }

    private static void period() {
        test = "promise 21";
        MarqueeDisplay x = Displays.withText(0);
        due("period()", x.period(), 0);
        x.setSpeed(9);
        due("period() on an empty strip", x.period(), 0);
        x.insertMessage(0, 1);
        due("period()", x.period(), 63);
        x.setSpeed(1);
        due("period()", x.period(), 7);
        x.setGap(9);
        due("period()", x.period(), 12);
    }

    private static void ticksUntilWhole() {
        test = "promise 22";
        MarqueeDisplay x = Displays.withText(0);
        due("ticksUntilWhole(0) of none", x.ticksUntilWhole(0), ARGUMENT);
        x.setColumns(8);
        x.insertMessage(0, 1);
        Displays.setText(x, 2, 2);
        x.insertMessage(1, 1);
        Displays.setText(x, 26, 26, 26);
        x.insertMessage(2, 1);
        // 0..2 a, 7..17 cc, 22..29 three blanks: 8 columns, as many as the matrix has
        due("stripLength()", x.stripLength(), 34);
        for (int wrong : ABSURD) {
            due("ticksUntilWhole(" + wrong + ")", x.ticksUntilWhole(wrong), ARGUMENT);
        }
        due("ticksUntilWhole(-1)", x.ticksUntilWhole(-1), ARGUMENT);
        due("ticksUntilWhole(3)", x.ticksUntilWhole(3), ARGUMENT);
        due("ticksUntilWhole(0) now", x.ticksUntilWhole(0), 0);
        due("ticksUntilWhole(1) too wide", x.ticksUntilWhole(1), MISSING);
        due("ticksUntilWhole(2)", x.ticksUntilWhole(2), 44);
        x.tick(1);
        due("ticksUntilWhole(0) now", x.ticksUntilWhole(0), 0);
        due("ticksUntilWhole(2) with a tick counted", x.ticksUntilWhole(2), 43);
        x.tick(1);
        due("ticksUntilWhole(0) partly gone", x.ticksUntilWhole(0), 2 * (34 - 1 - 5));
        x.tick(2 * 21 - 1);
        due("ticksUntilWhole(2)", x.ticksUntilWhole(2), 1);
        x.tick(1);
        due("ticksUntilWhole(2) now", x.ticksUntilWhole(2), 0);
        x.tick(1);
        due("ticksUntilWhole(2) with a tick counted", x.ticksUntilWhole(2), 0);
        x.tick(1);
        due("ticksUntilWhole(2) just gone", x.ticksUntilWhole(2), 2 * 33);
        x.setSpeed(9);
        due("ticksUntilWhole(2) at another speed", x.ticksUntilWhole(2), 9 * 33);
        x.setColumns(11);
        due("ticksUntilWhole(1) just as wide as the matrix", x.ticksUntilWhole(1), 9 * (34 - 16));
        wholeOnShortStrip();
    }

    private static void wholeOnShortStrip() {
        MarqueeDisplay x = Displays.withText(0);
        x.setGap(0);
        x.setSpeed(1);
        x.insertMessage(0, 1);
        for (int i = 0; i < 4; i++) {
            due("ticksUntilWhole(0) of a repeated message", x.ticksUntilWhole(0), 0);
            x.tick(1);
        }
        MarqueeDisplay y = Displays.withText(26, 26, 26);
        y.setColumns(8);
        y.setGap(0);
        y.setSpeed(1);
        y.insertMessage(0, 1);
        y.tick(1);
        due("ticksUntilWhole(0) shown, but with a break", y.ticksUntilWhole(0), 7);
        y.setColumns(14);
        due("ticksUntilWhole(0) with a column missing", y.ticksUntilWhole(0), 1);
        y.setColumns(15);
        due("ticksUntilWhole(0) in its second place", y.ticksUntilWhole(0), 0);
    }

    private static void pixel() {
        test = "promise 23";
        MarqueeDisplay x = Displays.withText(0, 1);
        for (int wrong : ABSURD) {
            due("pixel(" + wrong + ", 0)", x.pixel(wrong, 0), ARGUMENT);
            due("pixel(0, " + wrong + ")", x.pixel(0, wrong), ARGUMENT);
        }
        due("pixel(-1, 0)", x.pixel(-1, 0), ARGUMENT);
        due("pixel(8, 0)", x.pixel(8, 0), ARGUMENT);
        due("pixel(0, -1)", x.pixel(0, -1), ARGUMENT);
        due("pixel(0, 16)", x.pixel(0, 16), ARGUMENT);
        due("pixel(7, 15) on an empty strip", x.pixel(7, 15), 0);
        // the glyphs a, b and c, the dark column between a and b, and the gaps
        int[] strip =
                {58, 104, 150, 0, 116, 191, 10, 85, 0, 0, 0, 0, 174, 22, 126, 230, 78, 0, 0, 0, 0};
        int[] colors = {1, 1, 1, 0, 1, 1, 1, 1, 0, 0, 0, 0, 3, 3, 3, 3, 3, 0, 0, 0, 0};
        for (int offset = 0; offset < strip.length; offset++) {
            // A display of its own for each offset, since it is good for 512 calls only.
            MarqueeDisplay y = withTwoColors();
            y.tick(2 * offset);
            duePicture(y, strip, colors, offset);
        }
        x = withTwoColors();
        x.setDefective(3, 0, true);
        due("pixel(3, 0) of a defective LED", x.pixel(3, 0), 0);
        due("pixel(4, 0) beside it", x.pixel(4, 0), 1);
        due("pixel(3, 1) beside it", x.pixel(3, 1), 1);
    }

    /** The message a b in red and the message c in yellow. */
    private static MarqueeDisplay withTwoColors() {
        MarqueeDisplay x = Displays.withText(0, 1);
        x.insertMessage(0, 1);
        Displays.setText(x, 2);
        x.insertMessage(1, 3);
        return x;
    }

    private static void duePicture(MarqueeDisplay x, int[] strip, int[] colors, int offset) {
        for (int row = 0; row < 8; row++) {
            for (int column = 0; column < 16; column++) {
                int place = (offset + column) % strip.length;
                int want = (strip[place] >> row) % 2 == 1 ? colors[place] : 0;
                due("pixel(" + row + ", " + column + ") at " + offset, x.pixel(row, column), want);
            }
        }
    }

    private static void load() {
        test = "promise 24";
        MarqueeDisplay x = Displays.withSameColumns(0b11000001, 1);
        due("load() of red", x.load(), 48);
        x.setColor(0, 2);
        due("load() of green", x.load(), 48);
        x.setColor(0, 3);
        due("load() of yellow", x.load(), 96);
        x.setDefective(0, 4, true);
        due("load() with a defective LED", x.load(), 94);
        x.setDefective(1, 4, true);
        due("load() with a defective LED that is not active", x.load(), 94);
        x.setShift(1);
        due("load() shifted", x.load(), 2 * 31);
        x.setColumns(8);
        due("load() on fewer columns", x.load(), 2 * 15);
        x.insertMessage(0, 1);
        due("load() of two colors", x.load(), 7 + 2 * 8);
        x.removeMessage(0);
        x.removeMessage(0);
        due("load() without messages", x.load(), 0);
    }

    private static void brightness() {
        test = "promise 25";
        MarqueeDisplay x = Displays.withSameColumns(0b1111, 1);
        due("brightness() with load 64, budget 60", x.brightness(), 14);
        x.setBudget(64);
        due("brightness() with load 64, budget 64", x.brightness(), 15);
        x.setBudget(63);
        due("brightness() with load 64, budget 63", x.brightness(), 14);
        x.setBudget(65);
        due("brightness() with load 64, budget 65", x.brightness(), 15);
        x.setBudget(32);
        due("brightness() with load 64, budget 32", x.brightness(), 7);
        x.setBudget(4);
        due("brightness() with load 64, budget 4", x.brightness(), 0);
        x.setBudget(5);
        due("brightness() with load 64, budget 5", x.brightness(), 1);
        x.setColor(0, 3);
        due("brightness() with load 128, budget 5", x.brightness(), 0);
        x.setBudget(1);
        x.removeMessage(0);
        due("brightness() without messages", x.brightness(), 15);
    }

    private static void peakLoad() {
        test = "promise 26";
        MarqueeDisplay x = new MarqueeDisplay();
        due("peakLoad()", x.peakLoad(), 0);
        x = Displays.withOneColumn(9, 3);
        x.setColumns(8);
        due("peakLoad() of one column on 10", x.peakLoad(), 16);
        x.tick(2);
        due("load() where it is not seen", x.load(), 0);
        due("peakLoad() is of all offsets", x.peakLoad(), 16);
        x.setShift(-2);
        due("peakLoad() with the present shift", x.peakLoad(), 12);
        for (int column = 0; column < 8; column++) {
            x.setDefective(0, column, true);
        }
        due("peakLoad() with a defective row", x.peakLoad(), 10);
        x.setDefective(0, 5, false);
        due("peakLoad() where one LED is whole", x.peakLoad(), 12);
        due("offset() is kept", x.offset(), 1);
        x.setColumns(32);
        due("peakLoad() where it is shown four times, once on a defect", x.peakLoad(), 46);
    }

    private static void peakOffset() {
        test = "promise 27";
        MarqueeDisplay x = new MarqueeDisplay();
        due("peakOffset()", x.peakOffset(), MISSING);
        x = Displays.withOneColumn(9, 3);
        x.setColumns(8);
        due("peakOffset(), the least of many", x.peakOffset(), 0);
        x.setDefective(4, 0, true);
        due("peakOffset() where column 0 is avoided", x.peakOffset(), 3);
        x.tick(10);
        due("peakOffset() does not hang on the offset", x.peakOffset(), 3);
        due("offset() is kept", x.offset(), 5);
        x.setDefective(4, 7, true);
        due("peakOffset()", x.peakOffset(), 4);
        x.setGlyphColumn(0, 0, 0);
        due("peakOffset() of a dark strip", x.peakOffset(), 0);
        due("peakLoad() of a dark strip", x.peakLoad(), 0);
        x.removeMessage(0);
        due("peakOffset() of an empty strip", x.peakOffset(), MISSING);
    }

    private static void damage() {
        test = "promise 28";
        MarqueeDisplay x = new MarqueeDisplay();
        for (int wrong : ABSURD) {
            due("damage(" + wrong + ")", x.damage(wrong), ARGUMENT);
        }
        due("damage(-3)", x.damage(-3), ARGUMENT);
        due("damage(3)", x.damage(3), ARGUMENT);
        due("damage(2) on an empty strip", x.damage(2), 0);
        x = Displays.withSameColumns(0b10000011, 3);
        x.setColumns(8);
        due("damage(-2)", x.damage(-2), 16);
        due("damage(-1)", x.damage(-1), 8);
        due("damage(0)", x.damage(0), 0);
        due("damage(1)", x.damage(1), 8);
        due("damage(2)", x.damage(2), 8);
        x.setShift(2);
        due("damage(0) does not hang on the shift", x.damage(0), 0);
        x.setDefective(0, 1, true);
        x.setDefective(1, 1, true);
        x.setDefective(3, 2, true);
        x.setDefective(4, 2, true);
        due("damage(-1) with defects", x.damage(-1), 9);
        due("damage(0) with defects", x.damage(0), 2);
        due("damage(1) with defects", x.damage(1), 9);
        due("damage(2) with defects", x.damage(2), 9);
        due("setShift(0)", x.setShift(0), 2);
        x = Displays.withOneColumn(9, 1);
        due("damage(1) of a column that is shown twice", x.damage(1), 2);
        x.setColumns(8);
        due("damage(1) of a column that is shown once", x.damage(1), 1);
        x.tick(2);
        due("damage(1) of a column that is not shown", x.damage(1), 0);
    }

    private static void adoptBestShift() {
        test = "promise 29";
        MarqueeDisplay x = new MarqueeDisplay();
        x.setShift(2);
        due("adoptBestShift() on an empty strip", x.adoptBestShift(), 0);
        due("setShift(0)", x.setShift(0), 0);
        // One dot in row 3: the rows that are defective choose among the shifts without damage.
        dueBestShift(0b1000, new int[] {}, 0, 0);
        dueBestShift(0b1000, new int[] {3}, 0, -1);
        dueBestShift(0b1000, new int[] {3, 2}, 0, 1);
        dueBestShift(0b1000, new int[] {3, 2, 4}, 0, -2);
        dueBestShift(0b1000, new int[] {3, 2, 4, 1}, 0, 2);
        dueBestShift(0b1000, new int[] {3, 2, 4, 1, 5}, 1, 0);
        // All dots: a shift by one loses a row of 8 columns, so a single defect is not worth it.
        dueBestShift(0b11111111, new int[] {3}, 1, 0);
        dueBestShift(0b01111111, new int[] {0}, 0, 1);
        dueBestShift(0b11111110, new int[] {7}, 0, -1);
    }

    private static void dueBestShift(int dots, int[] defectiveRows, int damage, int shift) {
        MarqueeDisplay x = Displays.withSameColumns(dots, 3);
        x.setColumns(8);
        for (int row : defectiveRows) {
            x.setDefective(row, 6, true);
        }
        x.setShift(2);
        due("adoptBestShift()", x.adoptBestShift(), damage);
        due("damage(" + shift + ")", x.damage(shift), damage);
        due("setShift(0) after adoptBestShift()", x.setShift(0), shift);
    }
}
