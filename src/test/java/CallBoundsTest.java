import java.util.function.IntUnaryOperator;

/** A test for each sentence of "Promise 1" to "Promise 29" that names a bound of a call. */
public final class CallBoundsTest {
    private static final int ARGUMENT = -11;
    private static final int STATE = -12;
    private static final int LIMIT = -13;
    private static final int MISSING = -14;

    private CallBoundsTest() {
    }

    public static void main(String[] args) {
        newObject();
        fontCalls();
        textCalls();
        messageCalls();
        messageLooks();
        settings();
        defects();
        timeCalls();
        wholeMessages();
        pictureCalls();
        peaks();
        damages();
        Due.end();
    }

    private static void due(String call, int got, int want) {
        Due.due(call, got, want);
    }

    /** The arguments just below and just above the range, and the farthest ones, are refused. */
    private static void dueRefused(String call, int low, int high, IntUnaryOperator answer) {
        int[] outside = {low - 1, high + 1, Integer.MIN_VALUE, Integer.MAX_VALUE};
        for (int argument : outside) {
            due(call + " of " + argument, answer.applyAsInt(argument), ARGUMENT);
        }
    }

    /** As dueRefused; and the first and the last argument of the range are taken. */
    private static void dueRange(String call, int low, int high, IntUnaryOperator answer) {
        dueRefused(call, low, high, answer);
        dueTaken(call, low, answer);
        dueTaken(call, high, answer);
    }

    private static void dueTaken(String call, int argument, IntUnaryOperator answer) {
        due(call + " of " + argument + " is refused",
                answer.applyAsInt(argument) == ARGUMENT ? 1 : 0, 0);
    }

    // ---- promise 1

    private static void newObject() {
        String where = "Promise 1";
        Due.sentence(where, "Creates a controller in the initial state", () -> {
            MarqueeDisplay x = new MarqueeDisplay();
            due("offset()", x.offset(), 0);
            due("setColumns(8)", x.setColumns(8), 16);
            due("setGap(0)", x.setGap(0), 4);
            due("setSpeed(1)", x.setSpeed(1), 2);
            due("setShift(1)", x.setShift(1), 0);
            due("setBudget(1)", x.setBudget(1), 60);
            due("setDefective(0, 0, true)", x.setDefective(0, 0, true), 1);
            due("setColumns(8) of the next object", new MarqueeDisplay().setColumns(8), 16);
        });
        Due.sentence(where, "with an empty text buffer", () -> {
            due("clearText()", new MarqueeDisplay().clearText(), 0);
            due("insertMessage(0, 1)", new MarqueeDisplay().insertMessage(0, 1), STATE);
            due("append(0)", new MarqueeDisplay().append(0), 1);
        });
        Due.sentence(where, "and no messages.", () -> {
            MarqueeDisplay x = new MarqueeDisplay();
            due("stripLength()", x.stripLength(), 0);
            due("messageWidth(0)", x.messageWidth(0), ARGUMENT);
            due("removeMessage(0)", x.removeMessage(0), ARGUMENT);
            due("insertMessage(1, 1)", x.insertMessage(1, 1), ARGUMENT);
        });
    }

    // ---- promises 2 to 4

    private static void fontCalls() {
        String where = "Promise 2";
        Due.sentence(where, "`character`: 0 to 26", () -> dueRange("setGlyphWidth(.., 1)", 0, 26,
                c -> new MarqueeDisplay().setGlyphWidth(c, 1)));
        Due.sentence(where, "`width`: 1 to 6", () -> dueRange("setGlyphWidth(26, ..)", 1, 6,
                width -> new MarqueeDisplay().setGlyphWidth(26, width)));
        Due.sentence(where, "Returns the previous width; INVALID_ARGUMENT if an argument is out"
                + " of range.", CallBoundsTest::previousWidth);
        where = "Promise 3";
        Due.sentence(where, "`character`: 0 to 26", () -> dueRange("setGlyphColumn(.., 0, 1)",
                0, 26, c -> new MarqueeDisplay().setGlyphColumn(c, 0, 1)));
        Due.sentence(where, "`column`: 0 or more, less than the width of the glyph",
                CallBoundsTest::columnToSet);
        Due.sentence(where, "`bits`: 0 to 255", () -> dueRange("setGlyphColumn(26, 1, ..)",
                0, 255, bits -> new MarqueeDisplay().setGlyphColumn(26, 1, bits)));
        Due.sentence(where, "Returns the previous column; INVALID_ARGUMENT if an argument is out"
                + " of range.", CallBoundsTest::previousColumn);
        where = "Promise 4";
        Due.sentence(where, "`character`: 0 to 26", () -> dueRange("glyphColumn(.., 0)", 0, 26,
                c -> new MarqueeDisplay().glyphColumn(c, 0)));
        Due.sentence(where, "`column`: 0 to 5", CallBoundsTest::columnToSee);
        Due.sentence(where, "Returns the column; INVALID_ARGUMENT if an argument is out of range;"
                + " NOT_FOUND if the glyph has no such column.", CallBoundsTest::missingColumn);
    }

    private static void previousWidth() {
        MarqueeDisplay x = new MarqueeDisplay();
        for (int character = 0; character <= 26; character += 26) {
            due("setGlyphWidth(.., 6)", x.setGlyphWidth(character, 6), character == 0 ? 3 : 2);
            due("setGlyphWidth(.., 1)", x.setGlyphWidth(character, 1), 6);
            due("setGlyphWidth(.., 1) again", x.setGlyphWidth(character, 1), 1);
            due("setGlyphWidth(.., 0)", x.setGlyphWidth(character, 0), ARGUMENT);
            due("setGlyphWidth(.., 7)", x.setGlyphWidth(character, 7), ARGUMENT);
            due("setGlyphWidth(.., 6)", x.setGlyphWidth(character, 6), 1);
        }
        due("setGlyphWidth(27, 7)", x.setGlyphWidth(27, 7), ARGUMENT);
    }

    private static void columnToSet() {
        for (int width = 1; width <= 6; width++) {
            MarqueeDisplay x = new MarqueeDisplay();
            x.setGlyphWidth(26, width);
            dueRefused("setGlyphColumn(26, .., 1) of width " + width, 0, width - 1,
                    column -> x.setGlyphColumn(26, column, 1));
            due("setGlyphColumn(26, 0, 4)", x.setGlyphColumn(26, 0, 4), 0);
            due("setGlyphColumn(26, width - 1, 8)",
                    x.setGlyphColumn(26, width - 1, 8), width == 1 ? 4 : 0);
        }
    }

    private static void previousColumn() {
        MarqueeDisplay x = new MarqueeDisplay();
        due("setGlyphColumn(0, 2, 255)", x.setGlyphColumn(0, 2, 255), 150);
        due("setGlyphColumn(0, 2, 256)", x.setGlyphColumn(0, 2, 256), ARGUMENT);
        due("setGlyphColumn(0, 3, 0)", x.setGlyphColumn(0, 3, 0), ARGUMENT);
        due("setGlyphColumn(0, 2, 0)", x.setGlyphColumn(0, 2, 0), 255);
        due("setGlyphColumn(0, 2, 0) again", x.setGlyphColumn(0, 2, 0), 0);
        due("setGlyphColumn(26, 1, 128)", x.setGlyphColumn(26, 1, 128), 0);
        due("setGlyphColumn(26, 1, 1)", x.setGlyphColumn(26, 1, 1), 128);
    }

    private static void columnToSee() {
        MarqueeDisplay x = new MarqueeDisplay();
        x.setGlyphWidth(1, 6);
        x.setGlyphColumn(1, 5, 77);
        dueRange("glyphColumn(1, ..)", 0, 5, column -> x.glyphColumn(1, column));
        dueRange("glyphColumn(26, ..)", 0, 5, column -> x.glyphColumn(26, column));
        due("glyphColumn(1, 0)", x.glyphColumn(1, 0), 116);
        due("glyphColumn(1, 5)", x.glyphColumn(1, 5), 77);
    }

    private static void missingColumn() {
        for (int width = 1; width <= 6; width++) {
            MarqueeDisplay x = new MarqueeDisplay();
            x.setGlyphWidth(0, width);
            x.setGlyphColumn(0, width - 1, 200 + width);
            due("glyphColumn(0, width - 1)", x.glyphColumn(0, width - 1), 200 + width);
            for (int column = width; column < 6; column++) {
                due("glyphColumn(0, " + column + ") of width " + width,
                        x.glyphColumn(0, column), MISSING);
            }
            due("glyphColumn(0, 6) of width " + width, x.glyphColumn(0, 6), ARGUMENT);
        }
    }

    // ---- promises 5 and 6

    private static void textCalls() {
        String where = "Promise 5";
        Due.sentence(where, "`character`: 0 to 26", () -> {
            MarqueeDisplay x = new MarqueeDisplay();
            dueRefused("append(..)", 0, 26, x::append);
            due("append(0)", x.append(0), 1);
            due("append(26)", x.append(26), 2);
        });
        Due.sentence(where, "Returns the new length of the text buffer; INVALID_ARGUMENT if"
                + " character is out of range; LIMIT_REACHED if the text buffer has 12"
                + " characters.", CallBoundsTest::fullText);
        where = "Promise 6";
        Due.sentence(where, "Empties the text buffer.", () -> {
            MarqueeDisplay x = Displays.withText(Displays.repeated(0, 12));
            x.clearText();
            due("insertMessage(0, 1)", x.insertMessage(0, 1), STATE);
            due("append(1)", x.append(1), 1);
            due("insertMessage(0, 1)", x.insertMessage(0, 1), 8);
        });
        Due.sentence(where, "Returns the length that it had.", () -> {
            for (int length = 0; length <= 12; length++) {
                MarqueeDisplay x = Displays.withText(Displays.repeated(26, length));
                due("clearText()", x.clearText(), length);
                due("clearText() of an empty buffer", x.clearText(), 0);
            }
        });
    }

    private static void fullText() {
        MarqueeDisplay x = new MarqueeDisplay();
        for (int length = 1; length <= 12; length++) {
            due("append(26)", x.append(26), length);
        }
        due("append(26) to 12 characters", x.append(26), LIMIT);
        due("append(0) to 12 characters", x.append(0), LIMIT);
        due("append(27) to 12 characters", x.append(27), ARGUMENT);
        due("append(-1) to 12 characters", x.append(-1), ARGUMENT);
        due("clearText()", x.clearText(), 12);
        due("append(26)", x.append(26), 1);
    }

    // ---- promises 7 to 9

    private static void messageCalls() {
        String where = "Promise 7";
        Due.sentence(where, "Inserts a message with the text of the text buffer. The text buffer"
                + " is kept.", CallBoundsTest::keptText);
        Due.sentence(where, "`index`: number that the message is to have, 0 to the number of"
                + " messages; the messages from this number on move up by one",
                CallBoundsTest::placesToInsert);
        Due.sentence(where, "`color`: 1 to 3", () -> dueRange("insertMessage(0, ..)", 1, 3,
                color -> Displays.withText(0).insertMessage(0, color)));
        Due.sentence(where, "Returns the new length L of the strip; INVALID_ARGUMENT if an"
                + " argument is out of range; INVALID_STATE if the text buffer is empty;"
                + " LIMIT_REACHED if there are 6 messages.", CallBoundsTest::answersOfInsert);
        where = "Promise 8";
        Due.sentence(where, "Removes a message; those behind it move down by one.",
                CallBoundsTest::placesToRemove);
        Due.sentence(where, "`index`: number of a message", () -> dueMessageNumbers(
                "removeMessage", (x, index) -> x.removeMessage(index)));
        Due.sentence(where, "Returns the new length L of the strip; INVALID_ARGUMENT if there is"
                + " no such message.", () -> {
                    MarqueeDisplay x = Displays.withMessages(6);
                    for (int left = 5; left >= 0; left--) {
                        due("removeMessage(0)", x.removeMessage(0), 7 * left);
                        due("removeMessage(" + left + ")", x.removeMessage(left), ARGUMENT);
                    }
                });
        where = "Promise 9";
        Due.sentence(where, "`index`: number of a message", () -> dueMessageNumbers(
                "setColor", (x, index) -> x.setColor(index, 2)));
        Due.sentence(where, "`color`: 1 to 3", () -> dueRange("setColor(0, ..)", 1, 3,
                color -> Displays.withMessages(1).setColor(0, color)));
        Due.sentence(where, "Returns the previous color; INVALID_ARGUMENT if an argument is out"
                + " of range.", CallBoundsTest::previousColors);
    }

    private interface MessageCall {
        int answer(MarqueeDisplay x, int index);
    }

    /** With no message to six: their numbers are taken, those just outside and far off are not. */
    private static void dueMessageNumbers(String name, MessageCall call) {
        for (int count = 0; count <= 6; count++) {
            int messages = count;
            dueRefused(name + "(..) with " + count + " messages", 0, count - 1,
                    index -> call.answer(Displays.withMessages(messages), index));
            for (int number = 0; number < count; number++) {
                int answer = call.answer(Displays.withMessages(count), number);
                due(name + "(" + number + ") of " + count + " is refused", answer < 0 ? 1 : 0, 0);
            }
        }
    }

    private static void keptText() {
        MarqueeDisplay x = Displays.withText(0);
        due("insertMessage(0, 1) of 1 character", x.insertMessage(0, 1), 7);
        due("append(26)", x.append(26), 2);
        due("messageWidth(0) after an append", x.messageWidth(0), 3);
        for (int length = 3; length <= 12; length++) {
            x.append(26);
        }
        due("insertMessage(1, 1) of 12 characters", x.insertMessage(1, 1), 7 + 36 + 4);
        due("append(26) to the kept buffer", x.append(26), LIMIT);
        due("clearText() of the kept buffer", x.clearText(), 12);
        due("messageWidth(0) after the buffer is empty", x.messageWidth(0), 3);
        due("messageWidth(1) after the buffer is empty", x.messageWidth(1), 36);
        x.append(1);
        due("messageWidth(0) with another text", x.messageWidth(0), 3);
        due("messageWidth(1) with another text", x.messageWidth(1), 36);
    }

    /** Messages of 1 to this many blanks of one column each, so that their widths are 1, 3, 5 .. */
    private static MarqueeDisplay withOddWidths(int count) {
        MarqueeDisplay x = new MarqueeDisplay();
        x.setGlyphWidth(26, 1);
        for (int i = 0; i < count; i++) {
            x.append(26);
            x.insertMessage(i, i % 3 + 1);
        }
        return x;
    }

    private static void placesToInsert() {
        for (int count = 0; count < 6; count++) {
            for (int index = 0; index <= count; index++) {
                MarqueeDisplay x = withOddWidths(count);
                Displays.setText(x, Displays.repeated(26, 12));
                x.insertMessage(index, 3);
                for (int i = 0; i <= count; i++) {
                    int old = i < index ? i : i - 1;
                    due("messageWidth(" + i + ") with one put at " + index + " of " + count,
                            x.messageWidth(i), i == index ? 23 : 2 * old + 1);
                    due("setColor(" + i + ", 1) with one put at " + index + " of " + count,
                            x.setColor(i, 1), i == index ? 3 : old % 3 + 1);
                }
            }
            int messages = count;
            dueRange("insertMessage(.., 1) with " + count + " messages", 0, count,
                    index -> Displays.withMessages(messages).insertMessage(index, 1));
        }
    }

    private static void answersOfInsert() {
        MarqueeDisplay x = new MarqueeDisplay();
        due("insertMessage(0, 1) without text", x.insertMessage(0, 1), STATE);
        due("stripLength()", x.stripLength(), 0);
        x.append(0);
        for (int i = 0; i < 6; i++) {
            due("insertMessage(0, 4)", x.insertMessage(0, 4), ARGUMENT);
            due("insertMessage(" + (i + 1) + ", 1)", x.insertMessage(i + 1, 1), ARGUMENT);
            due("insertMessage(" + i + ", 1)", x.insertMessage(i, 1), 7 * (i + 1));
        }
        due("insertMessage(0, 1) to 6 messages", x.insertMessage(0, 1), LIMIT);
        due("insertMessage(6, 1) to 6 messages", x.insertMessage(6, 1), LIMIT);
        due("insertMessage(7, 1) to 6 messages", x.insertMessage(7, 1), ARGUMENT);
        due("stripLength()", x.stripLength(), 42);
    }

    private static void placesToRemove() {
        for (int count = 1; count <= 6; count++) {
            for (int index = 0; index < count; index++) {
                MarqueeDisplay x = withOddWidths(count);
                x.removeMessage(index);
                due("messageWidth(" + (count - 1) + ") with one fewer than " + count,
                        x.messageWidth(count - 1), ARGUMENT);
                for (int i = 0; i < count - 1; i++) {
                    int old = i < index ? i : i + 1;
                    due("messageWidth(" + i + ") without " + index + " of " + count,
                            x.messageWidth(i), 2 * old + 1);
                    due("setColor(" + i + ", 1) without " + index + " of " + count,
                            x.setColor(i, 1), old % 3 + 1);
                }
                dueNewLastMessage(x, count, index);
            }
        }
    }

    /** The message that comes after a removal is one of its own and touches no other. */
    private static void dueNewLastMessage(MarqueeDisplay x, int count, int removed) {
        Displays.setText(x, Displays.repeated(26, 12));
        x.insertMessage(count - 1, 2);
        due("messageWidth(" + (count - 1) + ") of the new one", x.messageWidth(count - 1), 23);
        due("setColor(" + (count - 1) + ", 3) of the new one", x.setColor(count - 1, 3), 2);
        for (int i = 0; i < count - 1; i++) {
            int old = i < removed ? i : i + 1;
            due("messageWidth(" + i + ") beside the new one", x.messageWidth(i), 2 * old + 1);
            due("setColor(" + i + ", 1) beside the new one", x.setColor(i, 1), 1);
        }
    }

    private static void previousColors() {
        MarqueeDisplay x = Displays.withMessages(6);
        for (int index = 0; index < 6; index += 5) {
            due("setColor(" + index + ", 3)", x.setColor(index, 3), 1);
            due("setColor(" + index + ", 4)", x.setColor(index, 4), ARGUMENT);
            due("setColor(" + index + ", 0)", x.setColor(index, 0), ARGUMENT);
            due("setColor(" + index + ", 1)", x.setColor(index, 1), 3);
            due("setColor(" + index + ", 1) again", x.setColor(index, 1), 1);
        }
        due("setColor(6, 1)", x.setColor(6, 1), ARGUMENT);
        due("setColor(6, 4)", x.setColor(6, 4), ARGUMENT);
    }

    // ---- promises 10 and 11

    private static void messageLooks() {
        String where = "Promise 10";
        Due.sentence(where, "`index`: number of a message", () -> dueMessageNumbers(
                "messageWidth", (x, index) -> x.messageWidth(index)));
        Due.sentence(where, "Returns the number of columns of a message, without the gap.",
                CallBoundsTest::widthsOfMessages);
        Due.sentence(where, "Returns the number of columns; INVALID_ARGUMENT if there is no such"
                + " message.", () -> dueNoSuchMessage((x, index) -> x.messageWidth(index)));
        where = "Promise 11";
        Due.sentence(where, "`index`: number of a message", () -> dueMessageNumbers(
                "messageStart", (x, index) -> x.messageStart(index)));
        Due.sentence(where, "Returns the first strip column of a message.",
                CallBoundsTest::startsOfMessages);
        Due.sentence(where, "Returns the number of the strip column; INVALID_ARGUMENT if there is"
                + " no such message.", () -> dueNoSuchMessage((x, index) -> x.messageStart(index)));
    }

    /** Behind the last message there is none, also where one has been before. */
    private static void dueNoSuchMessage(MessageCall call) {
        MarqueeDisplay x = Displays.withText(0);
        for (int count = 0; count < 6; count++) {
            due("message " + count + " of " + count, call.answer(x, count), ARGUMENT);
            x.insertMessage(0, 1);
            due("message -1 of " + (count + 1), call.answer(x, -1), ARGUMENT);
        }
        due("message 6 of 6", call.answer(x, 6), ARGUMENT);
        for (int count = 5; count >= 0; count--) {
            x.removeMessage(0);
            due("message " + count + ", removed", call.answer(x, count), ARGUMENT);
        }
    }

    private static void widthsOfMessages() {
        MarqueeDisplay x = Displays.withText(26);
        x.insertMessage(0, 1);
        Displays.setText(x, Displays.repeated(26, 12));
        x.insertMessage(1, 1);
        for (int gap = 0; gap <= 9; gap += 9) {
            x.setGap(gap);
            for (int width = 1; width <= 6; width++) {
                x.setGlyphWidth(26, width);
                due("messageWidth(0), gap " + gap, x.messageWidth(0), width);
                due("messageWidth(1), gap " + gap, x.messageWidth(1), 12 * width + 11);
            }
        }
    }

    private static void startsOfMessages() {
        for (int gap = 0; gap <= 9; gap++) {
            MarqueeDisplay x = withOddWidths(6);
            x.setGap(gap);
            x.tick(11);
            int start = 0;
            for (int i = 0; i < 6; i++) {
                due("messageStart(" + i + "), gap " + gap, x.messageStart(i), start);
                start += 2 * i + 1 + gap;
            }
            due("stripLength(), gap " + gap, x.stripLength(), start);
        }
    }

    // ---- promises 12 to 16

    private static void settings() {
        Setting columns = (x, value) -> x.setColumns(value);
        Setting gap = (x, value) -> x.setGap(value);
        Setting speed = (x, value) -> x.setSpeed(value);
        Setting shift = (x, value) -> x.setShift(value);
        Setting budget = (x, value) -> x.setBudget(value);
        Due.sentence("Promise 12", "`columns`: the new W, 8 to 32",
                () -> dueValues(8, 32, columns));
        Due.sentence("Promise 12", "Returns the previous W; INVALID_ARGUMENT if columns is out of"
                + " range.", () -> duePrevious(8, 32, 16, columns));
        Due.sentence("Promise 13", "`gap`: 0 to 9", () -> dueValues(0, 9, gap));
        Due.sentence("Promise 13", "Returns the previous gap; INVALID_ARGUMENT if gap is out of"
                + " range.", () -> duePrevious(0, 9, 4, gap));
        Due.sentence("Promise 14", "`speed`: 1 to 9", () -> dueValues(1, 9, speed));
        Due.sentence("Promise 14", "Returns the previous speed; INVALID_ARGUMENT if speed is out"
                + " of range.", () -> duePrevious(1, 9, 2, speed));
        Due.sentence("Promise 15", "`shift`: -2 to 2", () -> dueValues(-2, 2, shift));
        Due.sentence("Promise 15", "Returns the previous shift; INVALID_ARGUMENT if shift is out"
                + " of range.", () -> duePrevious(-2, 2, 0, shift));
        Due.sentence("Promise 16", "`budget`: 1 to 999", () -> dueValues(1, 999, budget));
        Due.sentence("Promise 16", "Returns the previous budget; INVALID_ARGUMENT if budget is"
                + " out of range.", () -> duePrevious(1, 999, 60, budget));
        Due.sentence("Promise 12", "Defective LEDs in columns that no longer exist are"
                + " forgotten.", CallBoundsTest::forgottenDefects);
        Due.sentence("Promise 14", "Sets the speed and makes the counter of ticks 0.",
                CallBoundsTest::speedBeforeMove);
    }

    private interface Setting {
        int set(MarqueeDisplay x, int value);
    }

    /** Each value of the range is taken, those just outside and far off are not. */
    private static void dueValues(int low, int high, Setting setting) {
        dueRange("set", low, high, value -> setting.set(new MarqueeDisplay(), value));
        for (int value = low; value <= high; value++) {
            MarqueeDisplay x = new MarqueeDisplay();
            setting.set(x, value);
            due("set again", setting.set(x, value), value);
        }
    }

    /** From each value to the ends of the range; a refused value is not the previous one. */
    private static void duePrevious(int low, int high, int initial, Setting setting) {
        for (int value = low; value <= high; value++) {
            MarqueeDisplay x = new MarqueeDisplay();
            due("set from the initial value", setting.set(x, value), initial);
            due("set below the range", setting.set(x, low - 1), ARGUMENT);
            due("set above the range", setting.set(x, high + 1), ARGUMENT);
            due("set to the least", setting.set(x, low), value);
            due("set to the greatest", setting.set(x, high), low);
            due("set to the greatest again", setting.set(x, high), high);
        }
    }

    private static void forgottenDefects() {
        for (int columns = 8; columns < 32; columns++) {
            MarqueeDisplay x = Displays.withSameColumns(255, 1);
            x.setColumns(32);
            x.setDefective(0, 0, true);
            x.setDefective(7, columns - 1, true);
            x.setDefective(0, columns, true);
            due("setDefective(7, 31, true)", x.setDefective(7, 31, true), 4);
            due("setColumns(" + columns + ")", x.setColumns(columns), 32);
            due("load(), W = " + columns, x.load(), 8 * columns - 2);
            due("setDefective(1, 0, true)", x.setDefective(1, 0, true), 3);
            due("setColumns(32)", x.setColumns(32), columns);
            due("load() on all columns", x.load(), 256 - 3);
            due("pixel(7, " + (columns - 1) + ")", x.pixel(7, columns - 1), 0);
            due("pixel(0, " + columns + ")", x.pixel(0, columns), 1);
            due("pixel(7, 31)", x.pixel(7, 31), 1);
            due("setDefective(7, 31, false)", x.setDefective(7, 31, false), STATE);
            due("setDefective(7, 31, true)", x.setDefective(7, 31, true), 4);
        }
    }

    private static void speedBeforeMove() {
        MarqueeDisplay x = Displays.withMessages(1);
        x.setSpeed(9);
        due("tick(8), a tick before the move", x.tick(8), 0);
        due("setSpeed(9), the same speed", x.setSpeed(9), 9);
        due("tick(8) with the counter at 0", x.tick(8), 0);
        due("setSpeed(2), less than the counter", x.setSpeed(2), 9);
        due("tick(1) with the counter at 0", x.tick(1), 0);
        due("tick(1) that reaches the speed", x.tick(1), 1);
        due("tick(1)", x.tick(1), 1);
        due("setSpeed(0), refused", x.setSpeed(0), ARGUMENT);
        due("setSpeed(10), refused", x.setSpeed(10), ARGUMENT);
        due("tick(1) with the counter kept", x.tick(1), 2);
    }

    // ---- promise 17

    private static void defects() {
        String where = "Promise 17";
        Due.sentence(where, "`row`: 0 to 7", () -> {
            MarqueeDisplay x = new MarqueeDisplay();
            dueRefused("setDefective(.., 0, true)", 0, 7, row -> x.setDefective(row, 0, true));
            dueRefused("setDefective(.., 0, false)", 0, 7, row -> x.setDefective(row, 0, false));
            due("setDefective(0, 0, true)", x.setDefective(0, 0, true), 1);
            due("setDefective(7, 0, true)", x.setDefective(7, 0, true), 2);
        });
        Due.sentence(where, "`column`: 0 to W - 1", () -> {
            for (int columns = 8; columns <= 32; columns++) {
                MarqueeDisplay x = new MarqueeDisplay();
                x.setColumns(columns);
                dueRefused("setDefective(0, .., true), W = " + columns, 0, columns - 1,
                        column -> x.setDefective(0, column, true));
                due("setDefective(0, 0, true)", x.setDefective(0, 0, true), 1);
                due("setDefective(0, W - 1, true)", x.setDefective(0, columns - 1, true), 2);
            }
        });
        Due.sentence(where, "Returns the number of defective LEDs", CallBoundsTest::countOfDefects);
        Due.sentence(where, "INVALID_ARGUMENT if an argument is out of range", () -> {
            MarqueeDisplay x = new MarqueeDisplay();
            due("setDefective(8, 15, true)", x.setDefective(8, 15, true), ARGUMENT);
            due("setDefective(7, 16, true)", x.setDefective(7, 16, true), ARGUMENT);
            due("setDefective(8, 16, true)", x.setDefective(8, 16, true), ARGUMENT);
            due("setDefective(-1, -1, false)", x.setDefective(-1, -1, false), ARGUMENT);
            due("setDefective(7, 15, true), the first", x.setDefective(7, 15, true), 1);
            x.setColumns(15);
            due("setDefective(7, 15, false), W = 15", x.setDefective(7, 15, false), ARGUMENT);
            due("setDefective(7, 14, true), W = 15", x.setDefective(7, 14, true), 1);
        });
        Due.sentence(where, "INVALID_STATE if the LED is already so.", () -> {
            MarqueeDisplay x = new MarqueeDisplay();
            for (int column = 0; column < 16; column += 15) {
                due("setDefective(.., false)", x.setDefective(7, column, false), STATE);
                due("setDefective(.., true)", x.setDefective(7, column, true), 1);
                due("setDefective(.., true) again", x.setDefective(7, column, true), STATE);
                due("setDefective(.., false)", x.setDefective(7, column, false), 0);
                due("setDefective(.., false) again", x.setDefective(7, column, false), STATE);
            }
            due("setDefective(8, 0, false)", x.setDefective(8, 0, false), ARGUMENT);
        });
    }

    private static void countOfDefects() {
        MarqueeDisplay x = new MarqueeDisplay();
        x.setColumns(32);
        int count = 0;
        for (int row = 0; row < 8; row++) {
            for (int column = 0; column < 32; column++) {
                count++;
                due("setDefective(.., true)", x.setDefective(row, column, true), count);
            }
        }
        due("setDefective(0, 0, false) of all", x.setDefective(0, 0, false), 255);
        x.setColumns(8);
        due("setDefective(0, 0, true)", x.setDefective(0, 0, true), 64);
        for (int i = 63; i >= 0; i--) {
            due("setDefective(.., false)", x.setDefective(i / 8, i % 8, false), i);
        }
    }

    // ---- promises 18 to 21

    private static void timeCalls() {
        Due.sentence("Promise 18", "`ticks`: 0 to 9999", CallBoundsTest::numbersOfTicks);
        Due.sentence("Promise 18", "Returns the new offset", () -> {
            MarqueeDisplay x = Displays.withMessages(1);
            x.setSpeed(1);
            due("tick(6), to the end of the strip", x.tick(6), 6);
            due("tick(1), over the end of the strip", x.tick(1), 0);
            due("tick(9999)", x.tick(9999), 9999 % 7);
            due("tick(0)", x.tick(0), 9999 % 7);
        });
        Due.sentence("Promise 18", "INVALID_ARGUMENT if ticks is out of range.", () -> {
            MarqueeDisplay x = Displays.withMessages(1);
            x.tick(1);
            due("tick(-1)", x.tick(-1), ARGUMENT);
            due("tick(10000)", x.tick(10000), ARGUMENT);
            due("tick(1) after the refused calls", x.tick(1), 1);
            due("tick(-1) on an empty strip", new MarqueeDisplay().tick(-1), ARGUMENT);
            due("tick(10000) on an empty strip", new MarqueeDisplay().tick(10000), ARGUMENT);
        });
        Due.sentence("Promise 19", "Returns the offset.", () -> {
            MarqueeDisplay x = Displays.withMessages(1);
            due("offset() at first", x.offset(), 0);
            x.tick(13);
            due("offset() at the end of the strip", x.offset(), 6);
            x.tick(1);
            due("offset() behind the end of the strip", x.offset(), 0);
            due("offset() of an empty strip", new MarqueeDisplay().offset(), 0);
        });
        Due.sentence("Promise 20", "Returns the length L of the strip.", () -> {
            due("stripLength(), the least", new MarqueeDisplay().stripLength(), 0);
            due("stripLength() of one column",
                    Displays.withSameColumns(1, 1).stripLength(), 1);
            due("stripLength(), the greatest", withLongestStrip().stripLength(), 552);
        });
        Due.sentence("Promise 21", "Returns the number of ticks after which the offset and the"
                + " counter of ticks are the same again for the first time, that is, L * S",
                CallBoundsTest::periods);
        Due.sentence("Promise 21", "0 if L is 0.", () -> {
            MarqueeDisplay x = Displays.withText(0);
            due("period()", x.period(), 0);
            x.setSpeed(9);
            due("period() at speed 9", x.period(), 0);
            x.insertMessage(0, 1);
            x.removeMessage(0);
            due("period() behind the last message", x.period(), 0);
        });
    }

    private static MarqueeDisplay withLongestStrip() {
        MarqueeDisplay x = Displays.withText(Displays.repeated(26, 12));
        x.setGlyphWidth(26, 6);
        x.setGap(9);
        for (int i = 0; i < 6; i++) {
            x.insertMessage(0, 1);
        }
        return x;
    }

    private static void numbersOfTicks() {
        MarqueeDisplay x = Displays.withMessages(1);
        x.tick(3);
        dueRefused("tick(..)", 0, 9999, x::tick);
        due("tick(0)", x.tick(0), 1);
        due("tick(0) does not count", x.tick(0), 1);
        due("tick(1)", x.tick(1), 2);
        due("tick(9999)", x.tick(9999), (2 + 4999) % 7);
        due("tick(1)", x.tick(1), (2 + 5000) % 7);
        MarqueeDisplay y = Displays.withMessages(1);
        y.setSpeed(9);
        y.tick(8);
        due("tick(9999) with the counter at 8", y.tick(9999), (8 + 9999) / 9 % 7);
        due("tick(9999) again", y.tick(9999), (8 + 2 * 9999) / 9 % 7);
        due("tick(9999) on the longest strip", withLongestStrip().tick(9999), 4999 % 552);
    }

    private static void periods() {
        for (int speed = 1; speed <= 9; speed++) {
            for (int gap = 0; gap <= 9; gap++) {
                MarqueeDisplay x = Displays.withOneColumn(gap, 1);
                x.setSpeed(speed);
                x.tick(speed - 1);
                int period = x.period();
                due("period(), L = " + (gap + 1), period, (gap + 1) * speed);
                due("tick(period())", x.tick(period), 0);
                due("tick(1), the counter was at S - 1 again", x.tick(1), 1 % (gap + 1));
            }
        }
        MarqueeDisplay y = withLongestStrip();
        y.setSpeed(9);
        due("period(), the greatest", y.period(), 552 * 9);
    }

    // ---- promise 22

    private static void wholeMessages() {
        String where = "Promise 22";
        Due.sentence(where, "`index`: number of a message", () -> dueMessageNumbers(
                "ticksUntilWhole", (x, index) -> x.ticksUntilWhole(index)));
        Due.sentence(where, "Tells when a message will be visible as a whole, that is, when all"
                + " its columns will be shown side by side, without a break, in their order from"
                + " left to right, inside the matrix.", () -> {
                    wholeAtEachOffset();
                    wholeWithoutBreak();
                });
        Due.sentence(where, "Returns the least number of ticks, 0 or more, after which this is"
                + " so", CallBoundsTest::ticksWithCounter);
        Due.sentence(where, "INVALID_ARGUMENT if there is no such message", () -> {
            due("ticksUntilWhole(0) of none", new MarqueeDisplay().ticksUntilWhole(0), ARGUMENT);
            MarqueeDisplay x = withLongestStrip();
            due("ticksUntilWhole(6)", x.ticksUntilWhole(6), ARGUMENT);
            due("ticksUntilWhole(-1)", x.ticksUntilWhole(-1), ARGUMENT);
        });
        Due.sentence(where, "NOT_FOUND if the message has more than W columns.",
                CallBoundsTest::tooWideMessages);
    }

    /** A message of 3 columns on a strip of 12; it is whole while its start is at 0 to W - 3. */
    private static void wholeAtEachOffset() {
        MarqueeDisplay x = Displays.withMessages(1);
        x.setColumns(8);
        x.setGap(9);
        x.setSpeed(1);
        for (int offset = 0; offset < 24; offset++) {
            int place = (24 - offset) % 12;
            due("ticksUntilWhole(0) with the start at " + place,
                    x.ticksUntilWhole(0), place <= 5 ? 0 : place - 5);
            x.tick(1);
        }
    }

    /** A strip that is no longer than the message: the matrix shows it again behind itself. */
    private static void wholeWithoutBreak() {
        MarqueeDisplay x = Displays.withText(26, 26, 26);
        x.setGap(0);
        x.setSpeed(1);
        due("insertMessage(0, 1)", x.insertMessage(0, 1), 8);
        for (int columns = 8; columns <= 16; columns++) {
            x.setColumns(columns);
            for (int offset = 0; offset < 8; offset++) {
                int place = (8 - offset) % 8;
                due("ticksUntilWhole(0) with the start at " + place + ", W = " + columns,
                        x.ticksUntilWhole(0), Math.max(0, place - (columns - 8)));
                x.tick(1);
            }
        }
    }

    private static void ticksWithCounter() {
        for (int speed = 1; speed <= 9; speed++) {
            MarqueeDisplay x = Displays.withText(26, 26, 26);
            x.setColumns(8);
            x.setSpeed(speed);
            x.insertMessage(0, 1);
            int round = 12 * speed;
            for (int ticks = 0; ticks < round; ticks++) {
                due("ticksUntilWhole(0) after " + ticks + " ticks, S = " + speed,
                        x.ticksUntilWhole(0), ticks < speed ? 0 : round - ticks);
                x.tick(1);
            }
            due("ticksUntilWhole(0) after a round", x.ticksUntilWhole(0), 0);
        }
    }

    private static void tooWideMessages() {
        for (int glyphs = 3; glyphs <= 11; glyphs++) {
            int width = 3 * glyphs - 1;
            MarqueeDisplay x = Displays.withText(Displays.repeated(26, glyphs));
            x.insertMessage(0, 1);
            x.setColumns(width);
            due("ticksUntilWhole(0) of W columns, W = " + width, x.ticksUntilWhole(0), 0);
            if (width > 8) {
                x.setColumns(width - 1);
                due("ticksUntilWhole(0) of W + 1 columns, W = " + (width - 1),
                        x.ticksUntilWhole(0), MISSING);
            }
        }
        due("ticksUntilWhole(5) of 83 columns", withLongestStrip().ticksUntilWhole(5), MISSING);
    }

    // ---- promises 23 to 25

    private static void pictureCalls() {
        String where = "Promise 23";
        Due.sentence(where, "`row`: 0 to 7", () -> {
            MarqueeDisplay x = Displays.withSameColumns(0b10000001, 3);
            dueRefused("pixel(.., 0)", 0, 7, row -> x.pixel(row, 0));
            due("pixel(0, 0)", x.pixel(0, 0), 3);
            due("pixel(7, 0)", x.pixel(7, 0), 3);
        });
        Due.sentence(where, "`column`: 0 to W - 1", () -> {
            MarqueeDisplay x = Displays.withSameColumns(0b10000001, 3);
            for (int columns = 8; columns <= 32; columns++) {
                int high = columns - 1;
                x.setColumns(columns);
                dueRefused("pixel(0, ..), W = " + columns, 0, high, column -> x.pixel(0, column));
                due("pixel(0, 0)", x.pixel(0, 0), 3);
                due("pixel(7, W - 1), W = " + columns, x.pixel(7, high), 3);
            }
        });
        Due.sentence(where, "Returns 0 for dark, 1 for red, 2 for green, 3 for yellow;"
                + " INVALID_ARGUMENT if an argument is out of range.", () -> {
                    for (int color = 1; color <= 3; color++) {
                        MarqueeDisplay x = Displays.withSameColumns(1, color);
                        due("pixel(0, 15)", x.pixel(0, 15), color);
                        due("pixel(1, 15)", x.pixel(1, 15), 0);
                        due("pixel(0, 16)", x.pixel(0, 16), ARGUMENT);
                        due("pixel(8, 16)", x.pixel(8, 16), ARGUMENT);
                    }
                    MarqueeDisplay empty = new MarqueeDisplay();
                    due("pixel(7, 15) of an empty strip", empty.pixel(7, 15), 0);
                    due("pixel(8, 0) of an empty strip", empty.pixel(8, 0), ARGUMENT);
                    due("pixel(0, 16) of an empty strip", empty.pixel(0, 16), ARGUMENT);
                });
        Due.sentence("Promise 24", "Returns the load.", () -> {
            due("load() of an empty strip", new MarqueeDisplay().load(), 0);
            MarqueeDisplay x = Displays.withSameColumns(255, 3);
            x.setColumns(32);
            due("load(), the greatest", x.load(), 512);
            x.setShift(-2);
            due("load() with two rows lost", x.load(), 2 * 32 * 6);
        });
        Due.sentence("Promise 25", "Returns the brightness, 0 to 15.", () -> {
            due("brightness() of an empty strip", new MarqueeDisplay().brightness(), 15);
            MarqueeDisplay x = Displays.withSameColumns(255, 3);
            x.setColumns(32);
            x.setBudget(1);
            due("brightness(), the least", x.brightness(), 0);
            x.setBudget(34);
            due("brightness() just below 1", x.brightness(), 0);
            x.setBudget(35);
            due("brightness() just above 1", x.brightness(), 1);
            x.setBudget(511);
            due("brightness() just above the budget", x.brightness(), 14);
            x.setBudget(512);
            due("brightness() at the budget", x.brightness(), 15);
            x.setBudget(999);
            due("brightness() below the budget", x.brightness(), 15);
        });
    }

    // ---- promises 26 and 27

    private static void peaks() {
        Due.sentence("Promise 26", "Returns the greatest load over all offsets from 0 to L - 1,"
                + " with the present shift", CallBoundsTest::greatestLoads);
        Due.sentence("Promise 26", "0 if L is 0.", () -> {
            due("peakLoad()", new MarqueeDisplay().peakLoad(), 0);
            MarqueeDisplay x = Displays.withSameColumns(255, 3);
            x.removeMessage(0);
            due("peakLoad() behind the last message", x.peakLoad(), 0);
        });
        Due.sentence("Promise 27", "Returns the least offset with the peak load",
                CallBoundsTest::leastPeakOffsets);
        Due.sentence("Promise 27", "NOT_FOUND if L is 0.", () -> {
            due("peakOffset()", new MarqueeDisplay().peakOffset(), MISSING);
            MarqueeDisplay x = Displays.withSameColumns(0, 3);
            due("peakOffset() of a dark strip", x.peakOffset(), 0);
            x.removeMessage(0);
            due("peakOffset() behind the last message", x.peakOffset(), MISSING);
        });
    }

    /** One lit column on a strip of 10; all LEDs of the matrix but those of one column are dead. */
    private static MarqueeDisplay withOneColumnOfLeds(int wholeColumn) {
        MarqueeDisplay x = Displays.withOneColumn(9, 3);
        x.setColumns(8);
        for (int column = 0; column < 8; column++) {
            for (int row = 0; row < 8 && column != wholeColumn; row++) {
                x.setDefective(row, column, true);
            }
        }
        return x;
    }

    private static void greatestLoads() {
        for (int column = 0; column < 8; column++) {
            MarqueeDisplay x = withOneColumnOfLeds(column);
            due("load()", x.load(), column == 0 ? 16 : 0);
            due("peakLoad()", x.peakLoad(), 16);
            x.setShift(2);
            due("peakLoad() with shift 2", x.peakLoad(), 12);
            x.setShift(-1);
            due("peakLoad() with shift -1", x.peakLoad(), 14);
            due("offset() is kept", x.offset(), 0);
        }
        MarqueeDisplay y = Displays.withSameColumns(255, 3);
        y.setColumns(32);
        due("peakLoad() with L = 1, the greatest", y.peakLoad(), 512);
        y.setGap(1);
        due("peakLoad() with L = 2", y.peakLoad(), 256);
    }

    private static void leastPeakOffsets() {
        for (int column = 0; column < 8; column++) {
            due("peakOffset() with whole column " + column,
                    withOneColumnOfLeds(column).peakOffset(), (10 - column) % 10);
        }
        for (int gap = 0; gap <= 9; gap++) {
            MarqueeDisplay x = Displays.withOneColumn(gap, 1);
            x.tick(gap * 2);
            due("peakOffset() with the column at 0 first, gap " + gap, x.peakOffset(), 0);
        }
        MarqueeDisplay y = Displays.withOneColumn(8, 1);
        y.setColumns(8);
        y.setDefective(0, 0, true);
        due("peakOffset() of a matrix that shows 8 of 9 columns", y.peakOffset(), 2);
        y.setColumns(9);
        due("peakOffset() of a matrix that shows 9 of 9 columns", y.peakOffset(), 1);
        MarqueeDisplay z = withOneColumnOfLeds(1);
        due("peakOffset() at the end of the strip", z.peakOffset(), 9);
        z.setGap(8);
        due("peakOffset() at the end of a shorter strip", z.peakOffset(), 8);
    }

    // ---- promises 28 and 29

    private static void damages() {
        Due.sentence("Promise 28", "`shift`: -2 to 2", () -> {
            MarqueeDisplay x = Displays.withSameColumns(255, 1);
            dueRefused("damage(..)", -2, 2, x::damage);
            int[] want = {32, 16, 0, 16, 32};
            for (int shift = -2; shift <= 2; shift++) {
                due("damage(" + shift + ")", x.damage(shift), want[shift + 2]);
            }
        });
        Due.sentence("Promise 28", "Returns the number of dots", () -> {
            for (int shift = -2; shift <= 2; shift++) {
                MarqueeDisplay x = Displays.withSameColumns(255, 3);
                x.setColumns(8);
                for (int led = 0; led < 64; led++) {
                    x.setDefective(led / 8, led % 8, true);
                }
                due("damage(" + shift + "), the greatest of 8 columns", x.damage(shift), 64);
                x.setColumns(32);
                due("damage(" + shift + ") of 32 columns", x.damage(shift),
                        64 + 24 * Math.abs(shift));
                due("damage(" + shift + ") of no strip", new MarqueeDisplay().damage(shift), 0);
            }
        });
        Due.sentence("Promise 28", "INVALID_ARGUMENT if shift is out of range.", () -> {
            MarqueeDisplay x = Displays.withSameColumns(255, 1);
            x.setShift(2);
            due("damage(3) with shift 2", x.damage(3), ARGUMENT);
            due("damage(-3) with shift 2", x.damage(-3), ARGUMENT);
            due("damage(3) on an empty strip", new MarqueeDisplay().damage(3), ARGUMENT);
            due("damage(-3) on an empty strip", new MarqueeDisplay().damage(-3), ARGUMENT);
        });
        Due.sentence("Promise 29", "Sets the shift to the best shift.",
                CallBoundsTest::adoptedShifts);
        Due.sentence("Promise 29", "Returns the damage of the best shift.", () -> {
            due("adoptBestShift() of an empty strip", new MarqueeDisplay().adoptBestShift(), 0);
            MarqueeDisplay x = Displays.withSameColumns(255, 1);
            // A shift by one loses 16 dots, so that no shift is better up to 16 defects in a row.
            for (int led = 0; led < 16; led++) {
                due("adoptBestShift() with " + led + " defects", x.adoptBestShift(), led);
                x.setDefective(0, led, true);
            }
            due("adoptBestShift() with 16 defects", x.adoptBestShift(), 16);
        });
    }

    private static void adoptedShifts() {
        dueAdopted(0b11111110, 0, 0);
        dueAdopted(0b01111111, 0, 1);
        dueAdopted(0b11111110, 7, -1);
        dueAdopted(0b00111111, 0, 1);
        dueAdopted(0b00111110, 1, 1);
        dueAdopted(0b01111100, 6, -1);
        dueAdopted(0b00000000, 3, 0);
        MarqueeDisplay x = Displays.withSameColumns(0b00111111, 1);
        x.setDefective(0, 0, true);
        x.setDefective(1, 0, true);
        due("adoptBestShift()", x.adoptBestShift(), 0);
        due("setShift(0)", x.setShift(0), 2);
        MarqueeDisplay y = Displays.withSameColumns(0b11111100, 1);
        y.setDefective(7, 15, true);
        y.setDefective(6, 15, true);
        due("adoptBestShift()", y.adoptBestShift(), 0);
        due("pixel(0, 0) with the shift adopted", y.pixel(0, 0), 1);
        due("setShift(0)", y.setShift(0), -2);
    }

    /** With one defective LED in this row, a shift without damage is due, from whatever shift. */
    private static void dueAdopted(int dots, int defectiveRow, int want) {
        for (int shift = -2; shift <= 2; shift++) {
            MarqueeDisplay x = Displays.withSameColumns(dots, 1);
            x.setDefective(defectiveRow, 15, true);
            x.setShift(shift);
            due("adoptBestShift() from " + shift, x.adoptBestShift(), 0);
            due("setShift(0) after it", x.setShift(0), want);
        }
    }
}
