/** A test for each sentence of the document's "Description", from "Matrix" to "Best shift". */
public final class DescriptionTest {
    private static final int ARGUMENT = -11;
    private static final int STATE = -12;
    private static final int LIMIT = -13;
    private static final int MISSING = -14;

    private DescriptionTest() {
    }

    public static void main(String[] args) {
        matrix();
        font();
        messages();
        strip();
        offsetAndShift();
        time();
        brightness();
        bestShift();
        Due.end();
    }

    private static void due(String call, int got, int want) {
        Due.due(call, got, want);
    }

    // ---- matrix

    private static void matrix() {
        String where = "Matrix";
        Due.sentence(where, "The matrix has 8 rows, numbered 0 to 7 from the top",
                DescriptionTest::rows);
        Due.sentence(where, "W columns, numbered 0 to W - 1 from the left",
                DescriptionTest::columns);
        Due.sentence(where, "W is from 8 to 32; initially it is 16.",
                DescriptionTest::numberOfColumns);
        Due.sentence(where, "Each LED can be dark (0), red (1), green (2) or yellow (3).",
                DescriptionTest::ledStates);
        Due.sentence(where, "An LED may be defective; then it stays dark.",
                DescriptionTest::defectiveStaysDark);
        Due.sentence(where, "Initially no LED is defective.", DescriptionTest::noneIsDefective);
    }

    private static void rows() {
        MarqueeDisplay x = Displays.withSameColumns(0b10000001, 1);
        due("pixel(-1, 0)", x.pixel(-1, 0), ARGUMENT);
        due("pixel(0, 0)", x.pixel(0, 0), 1);
        due("pixel(7, 0)", x.pixel(7, 0), 1);
        due("pixel(8, 0)", x.pixel(8, 0), ARGUMENT);
        due("setDefective(-1, 0, true)", x.setDefective(-1, 0, true), ARGUMENT);
        due("setDefective(0, 0, true)", x.setDefective(0, 0, true), 1);
        due("setDefective(7, 0, true)", x.setDefective(7, 0, true), 2);
        due("setDefective(8, 0, true)", x.setDefective(8, 0, true), ARGUMENT);
    }

    private static void columns() {
        for (int columns = 8; columns <= 32; columns++) {
            MarqueeDisplay x = Displays.withSameColumns(255, 2);
            x.setColumns(columns);
            due("pixel(3, -1)", x.pixel(3, -1), ARGUMENT);
            due("pixel(3, 0)", x.pixel(3, 0), 2);
            due("pixel(3, W - 1), W = " + columns, x.pixel(3, columns - 1), 2);
            due("pixel(3, W), W = " + columns, x.pixel(3, columns), ARGUMENT);
            due("setDefective(3, -1, true)", x.setDefective(3, -1, true), ARGUMENT);
            due("setDefective(3, 0, true)", x.setDefective(3, 0, true), 1);
            due("setDefective(3, W - 1, true)", x.setDefective(3, columns - 1, true), 2);
            due("setDefective(3, W, true)", x.setDefective(3, columns, true), ARGUMENT);
            due("load(), W = " + columns, x.load(), 8 * columns - 2);
        }
    }

    private static void numberOfColumns() {
        MarqueeDisplay x = Displays.withSameColumns(1, 1);
        due("load() on 16 columns", x.load(), 16);
        due("setColumns(7)", x.setColumns(7), ARGUMENT);
        due("setColumns(8)", x.setColumns(8), 16);
        due("load() on 8 columns", x.load(), 8);
        due("setColumns(32)", x.setColumns(32), 8);
        due("load() on 32 columns", x.load(), 32);
        due("setColumns(33)", x.setColumns(33), ARGUMENT);
        due("setColumns(32) after the refused calls", x.setColumns(32), 32);
    }

    private static void ledStates() {
        MarqueeDisplay x = Displays.withText(0);
        x.setGlyphWidth(0, 1);
        x.setGlyphColumn(0, 0, 1);
        x.setGap(1);
        x.insertMessage(0, 1);
        x.insertMessage(1, 2);
        x.insertMessage(2, 3);
        Due.dueRow("with three colors", x, 0, "1020301020301020");
    }

    private static void defectiveStaysDark() {
        MarqueeDisplay x = Displays.withSameColumns(255, 3);
        x.setColumns(8);
        for (int row = 0; row < 8; row++) {
            for (int column = 0; column < 8; column++) {
                x.setDefective(row, column, true);
            }
        }
        for (int row = 0; row < 8; row++) {
            Due.dueRow("with all LEDs defective", x, row, "00000000");
        }
        for (int shift = -2; shift <= 2; shift++) {
            x.setShift(shift);
            due("load() with shift " + shift, x.load(), 0);
        }
        x.setShift(0);
        x.setColor(0, 1);
        x.tick(2);
        due("load() in another color, after a move", x.load(), 0);
        x.setDefective(7, 7, false);
        Due.dueRow("with one LED repaired", x, 7, "00000001");
        due("load() with one LED repaired", x.load(), 1);
    }

    private static void noneIsDefective() {
        MarqueeDisplay x = new MarqueeDisplay();
        for (int row = 0; row < 8; row++) {
            for (int column = 0; column < 16; column++) {
                due("setDefective(" + row + ", " + column + ", false)",
                        x.setDefective(row, column, false), STATE);
            }
        }
        due("setDefective(7, 15, true), the first", x.setDefective(7, 15, true), 1);
        MarqueeDisplay y = Displays.withSameColumns(255, 1);
        due("load() with all LEDs lit", y.load(), 128);
        y.setColumns(32);
        due("load() with all LEDs lit, also in new columns", y.load(), 256);
    }

    // ---- font

    private static void font() {
        String where = "Font";
        Due.sentence(where, "There are 27 characters: the letters a to z (numbers 0 to 25) and"
                + " the blank (number 26).", DescriptionTest::characters);
        Due.sentence(where, "The glyph of a character has a width of 1 to 6 columns.",
                DescriptionTest::glyphWidths);
        Due.sentence(where, "A column of a glyph is a number from 0 to 255",
                DescriptionTest::columnNumbers);
        Due.sentence(where, "its bit r (the bit with value 2^r) is 1 if the dot in row r is lit.",
                DescriptionTest::bitOfRow);
        Due.sentence(where, "Column j of a glyph exists for 0 <= j < width",
                DescriptionTest::columnsThatExist);
        Due.sentence(where, "when a width grows, the new columns are 0.",
                DescriptionTest::newColumns);
        Due.sentence(where, "Initially the glyph of letter number c has the width 3 + (c mod 3)"
                + " and the columns ((c + 1) * (j + 2) * 29 + 17 * j) mod 256",
                DescriptionTest::initialLetters);
        Due.sentence(where, "the glyph of the blank has the width 2, and its columns are 0.",
                DescriptionTest::initialBlank);
    }

    private static void characters() {
        MarqueeDisplay x = new MarqueeDisplay();
        due("append(-1)", x.append(-1), ARGUMENT);
        due("append(0)", x.append(0), 1);
        due("append(25)", x.append(25), 2);
        due("append(26)", x.append(26), 3);
        due("append(27)", x.append(27), ARGUMENT);
        due("setGlyphWidth(-1, 6)", x.setGlyphWidth(-1, 6), ARGUMENT);
        due("setGlyphWidth(0, 6)", x.setGlyphWidth(0, 6), 3);
        due("setGlyphWidth(25, 6)", x.setGlyphWidth(25, 6), 4);
        due("setGlyphWidth(26, 6)", x.setGlyphWidth(26, 6), 2);
        due("setGlyphWidth(27, 6)", x.setGlyphWidth(27, 6), ARGUMENT);
        due("setGlyphColumn(-1, 0, 1)", x.setGlyphColumn(-1, 0, 1), ARGUMENT);
        due("setGlyphColumn(0, 0, 1)", x.setGlyphColumn(0, 0, 1), 58);
        due("setGlyphColumn(25, 0, 2)", x.setGlyphColumn(25, 0, 2), 228);
        due("setGlyphColumn(26, 0, 3)", x.setGlyphColumn(26, 0, 3), 0);
        due("setGlyphColumn(27, 0, 1)", x.setGlyphColumn(27, 0, 1), ARGUMENT);
        due("glyphColumn(-1, 0)", x.glyphColumn(-1, 0), ARGUMENT);
        due("glyphColumn(0, 0)", x.glyphColumn(0, 0), 1);
        due("glyphColumn(25, 0)", x.glyphColumn(25, 0), 2);
        due("glyphColumn(26, 0)", x.glyphColumn(26, 0), 3);
        due("glyphColumn(27, 0)", x.glyphColumn(27, 0), ARGUMENT);
    }

    private static void glyphWidths() {
        MarqueeDisplay x = Displays.withMessages(1);
        due("setGlyphWidth(0, 0)", x.setGlyphWidth(0, 0), ARGUMENT);
        due("messageWidth(0) after width 0", x.messageWidth(0), 3);
        due("setGlyphWidth(0, 1)", x.setGlyphWidth(0, 1), 3);
        due("messageWidth(0) with width 1", x.messageWidth(0), 1);
        due("setGlyphWidth(0, 6)", x.setGlyphWidth(0, 6), 1);
        due("messageWidth(0) with width 6", x.messageWidth(0), 6);
        due("setGlyphWidth(0, 7)", x.setGlyphWidth(0, 7), ARGUMENT);
        due("messageWidth(0) after width 7", x.messageWidth(0), 6);
        for (int character = 0; character <= 26; character++) {
            x.setGlyphWidth(character, 6);
            due("setGlyphWidth(" + character + ", 6)", x.setGlyphWidth(character, 6), 6);
        }
    }

    private static void columnNumbers() {
        MarqueeDisplay x = new MarqueeDisplay();
        due("setGlyphColumn(0, 0, -1)", x.setGlyphColumn(0, 0, -1), ARGUMENT);
        due("setGlyphColumn(0, 0, 0)", x.setGlyphColumn(0, 0, 0), 58);
        due("glyphColumn(0, 0)", x.glyphColumn(0, 0), 0);
        due("setGlyphColumn(0, 0, 255)", x.setGlyphColumn(0, 0, 255), 0);
        due("glyphColumn(0, 0)", x.glyphColumn(0, 0), 255);
        due("setGlyphColumn(0, 0, 256)", x.setGlyphColumn(0, 0, 256), ARGUMENT);
        due("glyphColumn(0, 0) after the refused call", x.glyphColumn(0, 0), 255);
    }

    private static void bitOfRow() {
        for (int r = 0; r < 8; r++) {
            MarqueeDisplay x = Displays.withSameColumns(1 << r, 1);
            for (int row = 0; row < 8; row++) {
                due("pixel(" + row + ", 0) with bit " + r, x.pixel(row, 0), row == r ? 1 : 0);
            }
        }
        due("load() without dots", Displays.withSameColumns(0, 1).load(), 0);
        due("load() with all dots", Displays.withSameColumns(255, 1).load(), 128);
    }

    private static void columnsThatExist() {
        for (int width = 1; width <= 6; width++) {
            MarqueeDisplay x = new MarqueeDisplay();
            x.setGlyphWidth(2, width);
            due("setGlyphColumn(2, -1, 9)", x.setGlyphColumn(2, -1, 9), ARGUMENT);
            due("glyphColumn(2, -1)", x.glyphColumn(2, -1), ARGUMENT);
            for (int j = 0; j < width; j++) {
                x.setGlyphColumn(2, j, 10 + j);
            }
            for (int j = 0; j < width; j++) {
                due("glyphColumn(2, " + j + ") of " + width, x.glyphColumn(2, j), 10 + j);
            }
            due("setGlyphColumn(2, width, 9) of " + width,
                    x.setGlyphColumn(2, width, 9), ARGUMENT);
            due("glyphColumn(2, width) of " + width,
                    x.glyphColumn(2, width), width < 6 ? MISSING : ARGUMENT);
        }
    }

    private static void newColumns() {
        MarqueeDisplay x = Displays.withMessages(1);
        x.setGlyphWidth(0, 6);
        for (int j = 3; j < 6; j++) {
            due("glyphColumn(0, " + j + ") that is new", x.glyphColumn(0, j), 0);
        }
        for (int j = 0; j < 6; j++) {
            x.setGlyphColumn(0, j, 255);
        }
        x.setGlyphWidth(0, 5);
        x.setGlyphWidth(0, 6);
        due("glyphColumn(0, 4) that was kept", x.glyphColumn(0, 4), 255);
        due("glyphColumn(0, 5) that was gone", x.glyphColumn(0, 5), 0);
        x.setGlyphWidth(0, 1);
        x.setGlyphWidth(0, 2);
        due("glyphColumn(0, 1) that was gone", x.glyphColumn(0, 1), 0);
        x.setGlyphWidth(0, 6);
        due("glyphColumn(0, 0) that was kept", x.glyphColumn(0, 0), 255);
        for (int j = 1; j < 6; j++) {
            due("glyphColumn(0, " + j + ") that was gone", x.glyphColumn(0, j), 0);
        }
        Due.dueRow("with new columns", x, 5, "1000000000100000");
    }

    private static void initialLetters() {
        MarqueeDisplay x = new MarqueeDisplay();
        dueGlyph(x, 0, 58, 104, 150);
        dueGlyph(x, 1, 116, 191, 10, 85);
        dueGlyph(x, 2, 174, 22, 126, 230, 78);
        dueGlyph(x, 25, 228, 231, 234, 237);
        for (int c = 0; c < 26; c++) {
            int[] columns = new int[3 + c % 3];
            for (int j = 0; j < columns.length; j++) {
                columns[j] = ((c + 1) * (j + 2) * 29 + 17 * j) % 256;
            }
            dueGlyph(x, c, columns);
        }
    }

    private static void initialBlank() {
        dueGlyph(new MarqueeDisplay(), 26, 0, 0);
    }

    private static void dueGlyph(MarqueeDisplay x, int character, int... columns) {
        for (int j = 0; j < 6; j++) {
            due("glyphColumn(" + character + ", " + j + ")", x.glyphColumn(character, j),
                    j < columns.length ? columns[j] : MISSING);
        }
    }

    // ---- messages

    private static void messages() {
        String where = "Messages and strip";
        Due.sentence(where, "There are at most 6 messages, numbered from 0.",
                DescriptionTest::numberOfMessages);
        Due.sentence(where, "A message has a text of 1 to 12 characters",
                DescriptionTest::textLengths);
        Due.sentence(where, "and a color, which is 1 (red), 2 (green) or 3 (yellow).",
                DescriptionTest::colors);
        Due.sentence(where, "Its columns are those of the glyphs of its characters in their"
                + " order, with one dark column between two neighbouring glyphs.",
                DescriptionTest::columnsOfMessage);
    }

    private static void numberOfMessages() {
        MarqueeDisplay x = Displays.withText(0);
        for (int i = 0; i < 6; i++) {
            due("messageWidth(" + i + ") of " + i, x.messageWidth(i), ARGUMENT);
            due("insertMessage(" + i + ", 1)", x.insertMessage(i, 1), 7 * (i + 1));
            due("messageWidth(" + i + ")", x.messageWidth(i), 3);
        }
        due("messageWidth(-1)", x.messageWidth(-1), ARGUMENT);
        due("messageWidth(6)", x.messageWidth(6), ARGUMENT);
        due("insertMessage(6, 1), the seventh", x.insertMessage(6, 1), LIMIT);
        due("stripLength()", x.stripLength(), 42);
        due("removeMessage(5)", x.removeMessage(5), 35);
        due("insertMessage(5, 1), the sixth again", x.insertMessage(5, 1), 42);
        due("insertMessage(0, 1), the seventh", x.insertMessage(0, 1), LIMIT);
    }

    private static void textLengths() {
        MarqueeDisplay x = new MarqueeDisplay();
        x.setGlyphWidth(26, 1);
        due("insertMessage(0, 1) with no character", x.insertMessage(0, 1), STATE);
        for (int length = 1; length <= 12; length++) {
            due("append(26)", x.append(26), length);
            due("insertMessage(0, 1)", x.insertMessage(0, 1), 2 * length - 1 + 4);
            due("messageWidth(0) of " + length, x.messageWidth(0), 2 * length - 1);
            due("removeMessage(0)", x.removeMessage(0), 0);
        }
        due("append(26), the thirteenth", x.append(26), LIMIT);
        due("insertMessage(0, 1)", x.insertMessage(0, 1), 27);
        due("messageWidth(0)", x.messageWidth(0), 23);
    }

    private static void colors() {
        MarqueeDisplay x = Displays.withSameColumns(128, 1);
        due("insertMessage(1, 0)", x.insertMessage(1, 0), ARGUMENT);
        due("insertMessage(1, 4)", x.insertMessage(1, 4), ARGUMENT);
        due("setColor(0, 0)", x.setColor(0, 0), ARGUMENT);
        due("setColor(0, 4)", x.setColor(0, 4), ARGUMENT);
        for (int color = 1; color <= 3; color++) {
            MarqueeDisplay y = Displays.withSameColumns(128, color);
            due("pixel(7, 0) in color " + color, y.pixel(7, 0), color);
            x.setColor(0, color);
            due("pixel(7, 0) set to color " + color, x.pixel(7, 0), color);
        }
    }

    private static void columnsOfMessage() {
        MarqueeDisplay x = Displays.withText(0, 1, 26, 0);
        x.setGlyphWidth(0, 1);
        x.setGlyphColumn(0, 0, 0b011);
        x.setGlyphWidth(1, 3);
        x.setGlyphColumn(1, 0, 0b110);
        x.setGlyphColumn(1, 1, 0b010);
        x.setGlyphColumn(1, 2, 0b100);
        x.insertMessage(0, 1);
        due("messageWidth(0)", x.messageWidth(0), 1 + 1 + 3 + 1 + 2 + 1 + 1);
        Due.dueRow("of a, b, blank, a", x, 0, "1000000001000010");
        Due.dueRow("of a, b, blank, a", x, 1, "1011000001000010");
        Due.dueRow("of a, b, blank, a", x, 2, "0010100000000000");
        MarqueeDisplay y = Displays.withSameColumns(255, 2);
        due("messageWidth(0) of one glyph", y.messageWidth(0), 1);
        Due.dueRow("of one glyph, without a gap", y, 0, "2222222222222222");
        Displays.setText(y, Displays.repeated(0, 12));
        y.removeMessage(0);
        y.setColumns(32);
        due("insertMessage(0, 2) of 12 glyphs", y.insertMessage(0, 2), 23);
        Due.dueRow("of 12 glyphs", y, 0, "20202020202020202020202202020202");
    }

    // ---- strip

    private static void strip() {
        String where = "Messages and strip";
        Due.sentence(where, "The strip is circular.", DescriptionTest::circularStrip);
        Due.sentence(where, "It consists of the columns of all messages in the order of their"
                + " numbers, and of G dark columns behind each message, the last one included.",
                DescriptionTest::gapBehindEach);
        Due.sentence(where, "The gap G is from 0 to 9; initially it is 4.", DescriptionTest::gaps);
        Due.sentence(where, "The columns of the strip are numbered from 0; its length L is the"
                + " number of its columns.", DescriptionTest::lengths);
        Due.sentence(where, "If there are no messages, L is 0.", DescriptionTest::noMessages);
    }

    private static void circularStrip() {
        MarqueeDisplay x = Displays.withOneColumn(9, 1);
        x.setSpeed(1);
        for (int offset = 0; offset < 20; offset++) {
            due("pixel(0, 9) at " + offset, x.pixel(0, 9), (offset + 9) % 10 == 0 ? 1 : 0);
            due("pixel(0, 10) at " + offset, x.pixel(0, 10), offset % 10 == 0 ? 1 : 0);
            due("tick(1)", x.tick(1), (offset + 1) % 10);
        }
    }

    private static void gapBehindEach() {
        MarqueeDisplay x = Displays.withSameColumns(1, 1);
        x.insertMessage(1, 2);
        x.insertMessage(2, 3);
        due("stripLength() with gap 0", x.stripLength(), 3);
        Due.dueRow("with gap 0", x, 0, "1231231231231231");
        x.setGap(1);
        due("stripLength() with gap 1", x.stripLength(), 6);
        Due.dueRow("with gap 1", x, 0, "1020301020301020");
        x.setColumns(32);
        x.setGap(9);
        due("stripLength() with gap 9", x.stripLength(), 30);
        Due.dueRow("with gap 9", x, 0, "10000000002000000000300000000010");
        x.removeMessage(2);
        x.removeMessage(1);
        due("stripLength() of one message", x.stripLength(), 10);
        Due.dueRow("of one message", x, 0, "10000000001000000000100000000010");
    }

    private static void gaps() {
        MarqueeDisplay x = Displays.withMessages(1);
        due("stripLength() with the initial gap", x.stripLength(), 7);
        due("setGap(-1)", x.setGap(-1), ARGUMENT);
        due("setGap(0)", x.setGap(0), 4);
        due("stripLength()", x.stripLength(), 3);
        due("setGap(9)", x.setGap(9), 0);
        due("stripLength()", x.stripLength(), 12);
        due("setGap(10)", x.setGap(10), ARGUMENT);
        due("stripLength() after the refused call", x.stripLength(), 12);
    }

    private static void lengths() {
        due("stripLength(), the least of a message",
                Displays.withSameColumns(1, 1).stripLength(), 1);
        MarqueeDisplay x = Displays.withText(Displays.repeated(26, 12));
        for (int i = 0; i < 6; i++) {
            due("insertMessage(" + i + ", 1)", x.insertMessage(i, 1), (i + 1) * (35 + 4));
            due("messageStart(0)", x.messageStart(0), 0);
            due("messageStart(" + i + ")", x.messageStart(i), i * 39);
        }
        x.setGlyphWidth(26, 6);
        x.setGap(9);
        due("stripLength(), the greatest", x.stripLength(), 6 * (12 * 6 + 11 + 9));
        due("messageStart(5)", x.messageStart(5), 460);
        x.setSpeed(1);
        due("tick(551), to the last column", x.tick(551), 551);
        due("tick(1)", x.tick(1), 0);
    }

    private static void noMessages() {
        MarqueeDisplay x = new MarqueeDisplay();
        due("stripLength() of a new object", x.stripLength(), 0);
        x.setGap(9);
        due("stripLength() with a gap, but no message", x.stripLength(), 0);
        x.append(0);
        due("stripLength() with a text, but no message", x.stripLength(), 0);
        x.insertMessage(0, 1);
        due("stripLength() of one message", x.stripLength(), 12);
        due("removeMessage(0)", x.removeMessage(0), 0);
        due("stripLength() behind the last message", x.stripLength(), 0);
    }

    // ---- offset and shift

    private static void offsetAndShift() {
        String where = "Messages and strip";
        Due.sentence(where, "The offset is a number from 0 to L - 1 (0 if L is 0).",
                DescriptionTest::offsets);
        Due.sentence(where, "Column x of the matrix shows the strip column (offset + x) mod L.",
                DescriptionTest::shownColumns);
        Due.sentence(where, "It may show a strip column in several places if L is less than W.",
                DescriptionTest::severalPlaces);
        Due.sentence(where, "If L is 0, all LEDs are dark.", DescriptionTest::darkWithoutStrip);
        Due.sentence(where, "The shift is a number from -2 to 2, initially 0.",
                DescriptionTest::shifts);
        Due.sentence(where, "A dot of row r of a strip column is shown in row r + shift of the"
                + " matrix; it is lost if there is no such row.", DescriptionTest::shiftedDots);
    }

    private static void offsets() {
        MarqueeDisplay x = new MarqueeDisplay();
        due("offset() of an empty strip", x.offset(), 0);
        for (int gap = 0; gap <= 9; gap++) {
            MarqueeDisplay y = Displays.withOneColumn(gap, 1);
            y.setSpeed(1);
            due("offset() at first", y.offset(), 0);
            due("tick(L - 1), L = " + (gap + 1), y.tick(gap), gap);
            due("offset() at the end of the strip", y.offset(), gap);
            due("tick(1) at the end of the strip", y.tick(1), 0);
            due("offset() behind the end of the strip", y.offset(), 0);
        }
    }

    private static void shownColumns() {
        MarqueeDisplay x = Displays.withOneColumn(9, 1);
        x.setSpeed(1);
        Due.dueRow("at offset 0", x, 0, "1000000000100000");
        x.tick(1);
        Due.dueRow("at offset 1", x, 0, "0000000001000000");
        x.tick(3);
        Due.dueRow("at offset 4", x, 0, "0000001000000000");
        x.tick(1);
        Due.dueRow("at offset 5", x, 0, "0000010000000001");
        x.tick(4);
        Due.dueRow("at the last offset", x, 0, "0100000000010000");
        x.tick(1);
        Due.dueRow("at offset 0 again", x, 0, "1000000000100000");
    }

    private static void severalPlaces() {
        String[] rows = {"22222222", "20202020", "20020020", "20002000", "20000200",
            "20000020", "20000002", "20000000", "20000000", "20000000"};
        for (int gap = 0; gap <= 9; gap++) {
            MarqueeDisplay x = Displays.withOneColumn(gap, 2);
            x.setColumns(8);
            Due.dueRow("with L = " + (gap + 1), x, 0, rows[gap]);
            Due.dueRow("with L = " + (gap + 1), x, 7, rows[gap]);
        }
    }

    private static void darkWithoutStrip() {
        MarqueeDisplay x = Displays.withSameColumns(255, 3);
        x.removeMessage(0);
        x.setShift(1);
        x.tick(3);
        for (MarqueeDisplay y : new MarqueeDisplay[] {new MarqueeDisplay(), x}) {
            for (int row = 0; row < 8; row++) {
                Due.dueRow("without messages", y, row, "0000000000000000");
            }
            due("load() without messages", y.load(), 0);
        }
    }

    private static void shifts() {
        MarqueeDisplay x = Displays.withSameColumns(0b00010000, 1);
        due("pixel(4, 0) with the initial shift", x.pixel(4, 0), 1);
        due("setShift(-3)", x.setShift(-3), ARGUMENT);
        due("setShift(-2)", x.setShift(-2), 0);
        due("pixel(2, 0)", x.pixel(2, 0), 1);
        due("setShift(2)", x.setShift(2), -2);
        due("pixel(6, 0)", x.pixel(6, 0), 1);
        due("setShift(3)", x.setShift(3), ARGUMENT);
        due("pixel(6, 0) after the refused call", x.pixel(6, 0), 1);
        due("damage(-3)", x.damage(-3), ARGUMENT);
        due("damage(-2)", x.damage(-2), 0);
        due("damage(2)", x.damage(2), 0);
        due("damage(3)", x.damage(3), ARGUMENT);
    }

    private static void shiftedDots() {
        for (int r = 0; r < 8; r++) {
            MarqueeDisplay x = Displays.withSameColumns(1 << r, 1);
            for (int shift = -2; shift <= 2; shift++) {
                x.setShift(shift);
                for (int row = 0; row < 8; row++) {
                    due("pixel(" + row + ", 0) of row " + r + ", shift " + shift,
                            x.pixel(row, 0), row == r + shift ? 1 : 0);
                }
                boolean lost = r + shift < 0 || r + shift > 7;
                due("load() of row " + r + ", shift " + shift, x.load(), lost ? 0 : 16);
            }
        }
    }

    // ---- time

    private static void time() {
        String where = "Time";
        Due.sentence(where, "The offset moves by one column every S ticks, where the speed S is"
                + " from 1 to 9; initially it is 2.", DescriptionTest::speeds);
        Due.sentence(where, "A counter of ticks begins with 0.", DescriptionTest::firstCounter);
        Due.sentence(where, "With each tick it grows by 1; when it reaches S, it becomes 0, and"
                + " the offset becomes (offset + 1) mod L", DescriptionTest::counterAtSpeed);
        Due.sentence(where, "(it stays 0 if L is 0).", DescriptionTest::ticksWithoutStrip);
        Due.sentence(where, "When an edit of the font, of the messages or of the gap changes L,"
                + " the offset becomes 0 if it is not less than the new L", () -> {
                    fontEditBehindOffset();
                    removalBehindOffset();
                    gapBehindOffset();
                });
        Due.sentence(where, "otherwise it stays.", DescriptionTest::editsThatKeepOffset);
        Due.sentence(where, "Setting the speed makes the counter 0.",
                DescriptionTest::speedAndCounter);
    }

    private static void speeds() {
        MarqueeDisplay x = Displays.withOneColumn(9, 1);
        due("tick(1) at the initial speed", x.tick(1), 0);
        due("tick(1) at the initial speed", x.tick(1), 1);
        due("setSpeed(0)", x.setSpeed(0), ARGUMENT);
        due("setSpeed(1)", x.setSpeed(1), 2);
        due("tick(1) at speed 1", x.tick(1), 2);
        due("setSpeed(9)", x.setSpeed(9), 1);
        due("tick(8) at speed 9", x.tick(8), 2);
        due("tick(1) at speed 9", x.tick(1), 3);
        due("setSpeed(10)", x.setSpeed(10), ARGUMENT);
        due("setSpeed(9) after the refused call", x.setSpeed(9), 9);
    }

    private static void firstCounter() {
        MarqueeDisplay x = Displays.withOneColumn(9, 1);
        due("tick(1), the first", x.tick(1), 0);
        due("tick(1), the second", x.tick(1), 1);
        MarqueeDisplay y = Displays.withOneColumn(9, 1);
        due("tick(2), the first two", y.tick(2), 1);
        due("ticksUntilWhole(0)", Displays.withMessages(1).ticksUntilWhole(0), 0);
    }

    private static void counterAtSpeed() {
        for (int speed = 1; speed <= 9; speed++) {
            MarqueeDisplay x = Displays.withOneColumn(4, 1);
            x.setSpeed(speed);
            due("tick(S - 1), S = " + speed, x.tick(speed - 1), 0);
            due("tick(1) that reaches S = " + speed, x.tick(1), 1);
            due("tick(S - 1) with the counter 0 again", x.tick(speed - 1), 1);
            due("tick(S + 1), S = " + speed, x.tick(speed + 1), 3);
            due("tick(5 * S), a whole round", x.tick(5 * speed), 3);
            due("tick(2 * S) over the end of the strip", x.tick(2 * speed), 0);
            for (int ticks = 1; ticks <= 45; ticks++) {
                due("tick(1), S = " + speed, x.tick(1), ticks / speed % 5);
            }
        }
    }

    private static void ticksWithoutStrip() {
        MarqueeDisplay x = Displays.withText(0);
        due("tick(2)", x.tick(2), 0);
        due("tick(9999)", x.tick(9999), 0);
        due("offset()", x.offset(), 0);
        due("insertMessage(0, 1)", x.insertMessage(0, 1), 7);
        due("offset() with the first message", x.offset(), 0);
        due("tick(1) with a tick counted before", x.tick(1), 1);
        x.removeMessage(0);
        due("tick(2) behind the last message", x.tick(2), 0);
        due("offset() behind the last message", x.offset(), 0);
    }

    /** A message of one glyph of width 6 and a gap of 4: L = 10. */
    private static MarqueeDisplay withTenColumns(int offset) {
        MarqueeDisplay x = Displays.withMessages(1);
        x.setGlyphWidth(0, 6);
        x.setSpeed(1);
        x.tick(offset);
        x.setSpeed(2);
        x.tick(1);
        return x;
    }

    private static void fontEditBehindOffset() {
        for (int offset = 0; offset < 10; offset++) {
            for (int width = 1; width <= 6; width++) {
                MarqueeDisplay x = withTenColumns(offset);
                x.setGlyphWidth(0, width);
                int want = offset >= width + 4 ? 0 : offset;
                due("offset() " + offset + " with glyph width " + width, x.offset(), want);
                due("tick(1), the counter is kept", x.tick(1), (want + 1) % (width + 4));
            }
        }
    }

    private static void removalBehindOffset() {
        for (int offset = 0; offset < 14; offset++) {
            MarqueeDisplay x = Displays.withMessages(2);
            x.setSpeed(1);
            x.tick(offset);
            int want = offset >= 7 ? 0 : offset;
            due("removeMessage(0)", x.removeMessage(0), 7);
            due("offset() " + offset + " of 14 on 7 columns", x.offset(), want);
            due("removeMessage(0)", x.removeMessage(0), 0);
            due("offset() on no columns", x.offset(), 0);
        }
    }

    private static void gapBehindOffset() {
        for (int offset = 0; offset < 10; offset++) {
            for (int gap = 0; gap <= 4; gap++) {
                MarqueeDisplay x = withTenColumns(offset);
                x.setGap(gap);
                int want = offset >= 6 + gap ? 0 : offset;
                due("offset() " + offset + " with gap " + gap, x.offset(), want);
                due("tick(1), the counter is kept", x.tick(1), (want + 1) % (6 + gap));
            }
        }
    }

    private static void editsThatKeepOffset() {
        MarqueeDisplay x = withTenColumns(9);
        x.setGlyphWidth(0, 6);
        x.setGap(4);
        due("offset() at the end, edits that change nothing", x.offset(), 9);
        x.setGlyphWidth(1, 1);
        x.setGlyphColumn(0, 5, 255);
        x.setColor(0, 3);
        due("offset() at the end, edits that keep L", x.offset(), 9);
        x.setColumns(8);
        x.setColumns(32);
        x.setDefective(0, 31, true);
        x.setShift(2);
        due("offset() at the end, another matrix", x.offset(), 9);
        x.setGap(5);
        due("offset() at the end, a longer gap", x.offset(), 9);
        x.insertMessage(0, 1);
        due("offset() at the end, one more message", x.offset(), 9);
        x.removeMessage(1);
        due("offset() 9 on 11 columns", x.offset(), 9);
        x.setGlyphWidth(0, 5);
        due("offset() 9 on 10 columns", x.offset(), 9);
        x.setGlyphWidth(0, 4);
        due("offset() 9 on 9 columns", x.offset(), 0);
        x.setGlyphWidth(0, 6);
        due("offset() on 11 columns again", x.offset(), 0);
    }

    private static void speedAndCounter() {
        for (int speed = 1; speed <= 9; speed++) {
            MarqueeDisplay x = Displays.withOneColumn(9, 1);
            x.setSpeed(9);
            x.tick(8);
            due("setSpeed(" + speed + ")", x.setSpeed(speed), 9);
            due("offset() when the speed is set", x.offset(), 0);
            due("tick(S - 1), S = " + speed, x.tick(speed - 1), 0);
            due("tick(1), S = " + speed, x.tick(1), 1);
        }
    }

    // ---- brightness

    private static void brightness() {
        String where = "Brightness";
        Due.sentence(where, "An LED is active if it would be lit if it were not defective. An LED"
                + " is lit if it is active and not defective.", DescriptionTest::litLeds);
        Due.sentence(where, "A yellow LED counts twice in the load, a red or green one once; the"
                + " load is the sum over all lit LEDs.", DescriptionTest::loads);
        Due.sentence(where, "The budget B is from 1 to 999; initially it is 60.",
                DescriptionTest::budgets);
        Due.sentence(where, "The brightness is 15 if the load is at most B, and (15 * B) / load,"
                + " rounded down, otherwise.", DescriptionTest::brightnesses);
    }

    private static void litLeds() {
        MarqueeDisplay x = Displays.withSameColumns(0b1, 1);
        due("setDefective(0, 0, true), an active LED", x.setDefective(0, 0, true), 1);
        due("setDefective(1, 1, true), a dark LED", x.setDefective(1, 1, true), 2);
        Due.dueRow("with defects", x, 0, "0111111111111111");
        Due.dueRow("with defects", x, 1, "0000000000000000");
        due("load()", x.load(), 15);
        x.setShift(1);
        Due.dueRow("with defects, shifted", x, 0, "0000000000000000");
        Due.dueRow("with defects, shifted", x, 1, "1011111111111111");
        due("load() shifted", x.load(), 15);
    }

    private static void loads() {
        int[] loads = {0, 256, 256, 512};
        for (int color = 1; color <= 3; color++) {
            MarqueeDisplay x = Displays.withSameColumns(255, color);
            x.setColumns(32);
            due("load() of all LEDs in color " + color, x.load(), loads[color]);
            x.setGlyphColumn(0, 0, 0);
            due("load() of none in color " + color, x.load(), 0);
            x.setGlyphColumn(0, 0, 1);
            due("load() of a row in color " + color, x.load(), loads[color] / 8);
        }
        MarqueeDisplay y = Displays.withSameColumns(1, 1);
        y.insertMessage(1, 2);
        y.insertMessage(2, 3);
        y.setColumns(8);
        due("load() of the row 12312312", y.load(), 3 + 3 + 2 * 2);
    }

    private static void budgets() {
        MarqueeDisplay x = Displays.withSameColumns(255, 3);
        x.setColumns(32);
        due("brightness() of 512 with the initial budget", x.brightness(), 15 * 60 / 512);
        due("setBudget(0)", x.setBudget(0), ARGUMENT);
        due("setBudget(1)", x.setBudget(1), 60);
        due("brightness() of 512 with budget 1", x.brightness(), 0);
        due("setBudget(999)", x.setBudget(999), 1);
        due("brightness() of 512 with budget 999", x.brightness(), 15);
        due("setBudget(1000)", x.setBudget(1000), ARGUMENT);
        due("setBudget(999) after the refused call", x.setBudget(999), 999);
    }

    private static void brightnesses() {
        MarqueeDisplay x = Displays.withSameColumns(0b11111, 1);
        due("load()", x.load(), 80);
        dueBrightness(x, 81, 15);
        dueBrightness(x, 80, 15);
        dueBrightness(x, 79, 14);
        dueBrightness(x, 75, 14);
        dueBrightness(x, 74, 13);
        dueBrightness(x, 16, 3);
        dueBrightness(x, 15, 2);
        dueBrightness(x, 6, 1);
        dueBrightness(x, 5, 0);
        dueBrightness(x, 1, 0);
        x.setGlyphColumn(0, 0, 0);
        due("brightness() of load 0, budget 1", x.brightness(), 15);
        MarqueeDisplay one = Displays.withOneColumn(9, 1);
        one.setColumns(8);
        one.setGlyphColumn(0, 0, 1);
        due("load() of one LED", one.load(), 1);
        dueBrightness(one, 1, 15);
        dueBrightness(one, 2, 15);
        dueBrightness(one, 999, 15);
        for (int gap = 0; gap <= 9; gap++) {
            MarqueeDisplay y = Displays.withOneColumn(gap, 1);
            int load = 8 * ((16 + gap) / (gap + 1));
            due("load(), gap " + gap, y.load(), load);
            dueBrightness(y, load, 15);
            dueBrightness(y, load - 1, 15 * (load - 1) / load);
        }
    }

    private static void dueBrightness(MarqueeDisplay x, int budget, int want) {
        x.setBudget(budget);
        due("brightness() of load " + x.load() + ", budget " + budget, x.brightness(), want);
    }

    // ---- best shift

    private static void bestShift() {
        String where = "Best shift";
        Due.sentence(where, "The damage of a shift is the number of dots of the strip columns"
                + " that are shown by the matrix at present, counted once for each matrix column",
                DescriptionTest::damageOfShownColumns);
        Due.sentence(where, "that are lost", DescriptionTest::lostDots);
        Due.sentence(where, "or would be shown by a defective LED if the shift were this one.",
                DescriptionTest::dotsOnDefects);
        Due.sentence(where, "The best shift is the one with the least damage",
                DescriptionTest::leastDamage);
        Due.sentence(where, "of several, the one with the smallest absolute value",
                DescriptionTest::smallestShift);
        Due.sentence(where, "of two such, the negative one.", DescriptionTest::negativeShift);
    }

    private static void damageOfShownColumns() {
        int[] shown = {8, 4, 3, 2, 2, 2, 2, 1, 1, 1};
        for (int gap = 0; gap <= 9; gap++) {
            MarqueeDisplay x = Displays.withOneColumn(gap, 3);
            x.setColumns(8);
            due("damage(-1), L = " + (gap + 1), x.damage(-1), shown[gap]);
        }
        MarqueeDisplay y = Displays.withOneColumn(9, 3);
        y.setColumns(8);
        y.setSpeed(1);
        y.tick(1);
        due("damage(-1) with the column out of sight", y.damage(-1), 0);
        y.tick(1);
        due("damage(-1) with the column out of sight", y.damage(-1), 0);
        y.tick(1);
        due("damage(-1) with the column in sight at the right", y.damage(-1), 1);
        due("damage(2) of an empty strip", new MarqueeDisplay().damage(2), 0);
    }

    private static void lostDots() {
        for (int r = 0; r < 8; r++) {
            MarqueeDisplay x = Displays.withSameColumns(1 << r, 3);
            x.setColumns(8);
            for (int shift = -2; shift <= 2; shift++) {
                boolean lost = r + shift < 0 || r + shift > 7;
                due("damage(" + shift + ") of row " + r, x.damage(shift), lost ? 8 : 0);
            }
        }
    }

    private static void dotsOnDefects() {
        for (int r = 0; r < 8; r++) {
            MarqueeDisplay x = Displays.withSameColumns(1 << r, 3);
            x.setColumns(8);
            x.setDefective(3, 0, true);
            x.setDefective(3, 7, true);
            x.setShift(r % 5 - 2);
            for (int shift = -2; shift <= 2; shift++) {
                int want = r + shift == 3 ? 2 : r + shift < 0 || r + shift > 7 ? 8 : 0;
                due("damage(" + shift + ") of row " + r, x.damage(shift), want);
            }
        }
        MarqueeDisplay y = Displays.withSameColumns(0b11111111, 1);
        y.setColumns(8);
        y.setDefective(0, 0, true);
        due("damage(1), the defective LED has no dot", y.damage(1), 8);
        due("damage(-1), lost dots and one on the defect", y.damage(-1), 8 + 1);
    }

    /** A dot in row 3 of each of the 8 columns; all LEDs of the named rows are defective. */
    private static MarqueeDisplay withDeadRows(int shift, int... rows) {
        MarqueeDisplay x = Displays.withSameColumns(0b1000, 1);
        x.setColumns(8);
        x.setShift(shift);
        for (int row : rows) {
            for (int column = 0; column < 8; column++) {
                x.setDefective(row, column, true);
            }
        }
        return x;
    }

    private static void dueBest(MarqueeDisplay x, int damage, int shift) {
        due("adoptBestShift()", x.adoptBestShift(), damage);
        due("setShift(0) after adoptBestShift()", x.setShift(0), shift);
    }

    private static void leastDamage() {
        for (int best = -2; best <= 2; best++) {
            MarqueeDisplay x = withDeadRows(-best, 1, 2, 3, 4, 5);
            x.setDefective(3 + best, 5, false);
            dueBest(x, 7, best);
        }
        MarqueeDisplay y = withDeadRows(0, 1, 2, 3, 4, 5);
        y.setDefective(4, 0, false);
        y.setDefective(5, 0, false);
        y.setDefective(5, 1, false);
        dueBest(y, 6, 2);
    }

    private static void smallestShift() {
        dueBest(new MarqueeDisplay(), 0, 0);
        dueBest(withDeadRows(2), 0, 0);
        dueBest(withDeadRows(-2, 1, 2, 3, 4, 5), 8, 0);
        dueBest(withDeadRows(-2, 3, 2), 0, 1);
        dueBest(withDeadRows(2, 3, 4), 0, -1);
        dueBest(withDeadRows(2, 2, 4), 0, 0);
    }

    private static void negativeShift() {
        dueBest(withDeadRows(0, 3), 0, -1);
        dueBest(withDeadRows(1, 3), 0, -1);
        dueBest(withDeadRows(0, 2, 3, 4), 0, -2);
        dueBest(withDeadRows(2, 2, 3, 4), 0, -2);
        dueBest(withDeadRows(2, 2, 3, 4, 1), 0, 2);
    }
}
