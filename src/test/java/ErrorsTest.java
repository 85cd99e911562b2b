import java.util.ArrayList;
import java.util.List;
import java.util.function.Supplier;
import java.util.function.ToIntFunction;

/** The sentences of the document's "Errors": which error goes first, and that nothing changes. */
public final class ErrorsTest {
    private static final int ARGUMENT = -11;
    private static final int STATE = -12;
    private static final int LIMIT = -13;
    private static final int MISSING = -14;

    private record Call(String text, ToIntFunction<MarqueeDisplay> make) {
    }

    private ErrorsTest() {
    }

    public static void main(String[] args) {
        String where = "Errors";
        Due.sentence(where, "INVALID_ARGUMENT is returned rather than INVALID_STATE",
                ErrorsTest::argumentBeforeState);
        Due.sentence(where, "INVALID_STATE rather than LIMIT_REACHED",
                ErrorsTest::stateBeforeLimit);
        Due.sentence(where, "If several errors apply to a call", () -> {
            argumentBeforeLimit();
            argumentBeforeMissing();
        });
        Due.sentence(where, "A call that returns an error changes nothing.", () -> {
            changesAreSeen();
            wrongArgumentsChangeNothing();
            wrongStatesChangeNothing();
            reachedLimitsChangeNothing();
            missingElementsChangeNothing();
        });
        Due.end();
    }

    private static void due(String call, int got, int want) {
        Due.due(call, got, want);
    }

    // ---- the error that goes before another

    private static void argumentBeforeState() {
        MarqueeDisplay x = new MarqueeDisplay();
        due("insertMessage(-1, 1) without text", x.insertMessage(-1, 1), ARGUMENT);
        due("insertMessage(1, 1) without text", x.insertMessage(1, 1), ARGUMENT);
        due("insertMessage(0, 0) without text", x.insertMessage(0, 0), ARGUMENT);
        due("insertMessage(0, 4) without text", x.insertMessage(0, 4), ARGUMENT);
        due("insertMessage(0, 1) without text", x.insertMessage(0, 1), STATE);
        due("setDefective(8, 0, false)", x.setDefective(8, 0, false), ARGUMENT);
        due("setDefective(0, 16, false)", x.setDefective(0, 16, false), ARGUMENT);
        due("setDefective(0, 0, false)", x.setDefective(0, 0, false), STATE);
        MarqueeDisplay full = withSixMessagesAndNoText();
        due("insertMessage(7, 1) to 6, without text", full.insertMessage(7, 1), ARGUMENT);
        due("insertMessage(-1, 1) to 6, without text", full.insertMessage(-1, 1), ARGUMENT);
        due("insertMessage(0, 0) to 6, without text", full.insertMessage(0, 0), ARGUMENT);
        due("insertMessage(0, 4) to 6, without text", full.insertMessage(0, 4), ARGUMENT);
    }

    private static void stateBeforeLimit() {
        MarqueeDisplay x = withSixMessagesAndNoText();
        due("insertMessage(0, 1) to 6, without text", x.insertMessage(0, 1), STATE);
        due("insertMessage(6, 3) to 6, without text", x.insertMessage(6, 3), STATE);
        x.append(0);
        due("insertMessage(0, 1) to 6, with text", x.insertMessage(0, 1), LIMIT);
        x.clearText();
        x.removeMessage(0);
        due("insertMessage(0, 1) to 5, without text", x.insertMessage(0, 1), STATE);
    }

    private static void argumentBeforeLimit() {
        MarqueeDisplay x = full();
        due("append(-1) to 12", x.append(-1), ARGUMENT);
        due("append(27) to 12", x.append(27), ARGUMENT);
        due("append(26) to 12", x.append(26), LIMIT);
        due("insertMessage(7, 1) to 6", x.insertMessage(7, 1), ARGUMENT);
        due("insertMessage(-1, 1) to 6", x.insertMessage(-1, 1), ARGUMENT);
        due("insertMessage(0, 0) to 6", x.insertMessage(0, 0), ARGUMENT);
        due("insertMessage(6, 4) to 6", x.insertMessage(6, 4), ARGUMENT);
        due("insertMessage(6, 3) to 6", x.insertMessage(6, 3), LIMIT);
    }

    private static void argumentBeforeMissing() {
        MarqueeDisplay x = busy();
        due("glyphColumn(27, 5)", x.glyphColumn(27, 5), ARGUMENT);
        due("glyphColumn(-1, 5)", x.glyphColumn(-1, 5), ARGUMENT);
        due("glyphColumn(0, 6)", x.glyphColumn(0, 6), ARGUMENT);
        due("glyphColumn(0, -1)", x.glyphColumn(0, -1), ARGUMENT);
        due("glyphColumn(0, 5)", x.glyphColumn(0, 5), MISSING);
        due("ticksUntilWhole(-1)", x.ticksUntilWhole(-1), ARGUMENT);
        due("ticksUntilWhole(2)", x.ticksUntilWhole(2), ARGUMENT);
        due("ticksUntilWhole(1), too wide", x.ticksUntilWhole(1), MISSING);
    }

    // ---- displays in which calls are refused

    /** Nothing is as in a new object; of two messages the second is wider than the matrix. */
    private static MarqueeDisplay busy() {
        MarqueeDisplay x = Displays.withText(3);
        x.setColumns(10);
        x.setGap(3);
        x.setShift(1);
        x.setBudget(20);
        x.insertMessage(0, 3);
        x.append(26);
        x.append(4);
        x.insertMessage(1, 2);
        x.setGlyphWidth(1, 6);
        x.setGlyphColumn(1, 5, 200);
        x.setDefective(2, 1, true);
        x.setDefective(7, 9, true);
        x.setDefective(4, 7, true);
        x.tick(13);
        x.setSpeed(5);
        x.tick(4);
        return x;
    }

    private static MarqueeDisplay withSixMessagesAndNoText() {
        MarqueeDisplay x = busy();
        for (int index = 2; index < 6; index++) {
            Displays.setText(x, index);
            x.insertMessage(index, index % 3 + 1);
        }
        x.clearText();
        return x;
    }

    private static MarqueeDisplay full() {
        MarqueeDisplay x = withSixMessagesAndNoText();
        for (int character = 0; character < 12; character++) {
            x.append(character);
        }
        return x;
    }

    // ---- a refused call changes nothing

    private static void dueUnchanged(Supplier<MarqueeDisplay> source, Call call, int error) {
        String before = WholeState.of(source);
        String after = WholeState.of(() -> {
            MarqueeDisplay x = source.get();
            due(call.text, call.make.applyAsInt(x), error);
            return x;
        });
        due(call.text + " changed something", before.equals(after) ? 0 : 1, 0);
    }

    /** The look that dueUnchanged relies on tells the displays apart that should be told apart. */
    private static void changesAreSeen() {
        List<Call> calls = List.of(
                new Call("setGlyphWidth(0, 4)", x -> x.setGlyphWidth(0, 4)),
                new Call("setGlyphColumn(26, 0, 1)", x -> x.setGlyphColumn(26, 0, 1)),
                new Call("append(5)", x -> x.append(5)),
                new Call("clearText()", x -> x.clearText()),
                new Call("insertMessage(2, 1)", x -> x.insertMessage(2, 1)),
                new Call("removeMessage(1)", x -> x.removeMessage(1)),
                new Call("setColor(1, 1)", x -> x.setColor(1, 1)),
                new Call("setColumns(9)", x -> x.setColumns(9)),
                new Call("setGap(2)", x -> x.setGap(2)),
                new Call("setSpeed(5), the same speed", x -> x.setSpeed(5)),
                new Call("setShift(0)", x -> x.setShift(0)),
                new Call("setBudget(21)", x -> x.setBudget(21)),
                new Call("setDefective(6, 6, true)", x -> x.setDefective(6, 6, true)),
                new Call("setDefective(7, 9, false)", x -> x.setDefective(7, 9, false)),
                new Call("tick(1)", x -> x.tick(1)));
        for (Call call : calls) {
            String before = WholeState.of(ErrorsTest::busy);
            String after = WholeState.of(() -> {
                MarqueeDisplay x = busy();
                call.make.applyAsInt(x);
                return x;
            });
            due(call.text + " changed something", before.equals(after) ? 0 : 1, 1);
        }
    }

    private static void wrongArgumentsChangeNothing() {
        List<Call> calls = new ArrayList<>();
        addWrongFontCalls(calls);
        addWrongMessageCalls(calls);
        addWrongSettings(calls);
        addWrongLooks(calls);
        for (Call call : calls) {
            dueUnchanged(MarqueeDisplay::new, call, ARGUMENT);
            dueUnchanged(ErrorsTest::busy, call, ARGUMENT);
            dueUnchanged(ErrorsTest::withSixMessagesAndNoText, call, ARGUMENT);
            dueUnchanged(ErrorsTest::full, call, ARGUMENT);
        }
        for (int index = 0; index < 2; index++) {
            int none = index + 1;
            Supplier<MarqueeDisplay> source = () -> Displays.withMessages(none);
            dueUnchanged(source, new Call("insertMessage behind the last number",
                    x -> x.insertMessage(none + 1, 1)), ARGUMENT);
            dueUnchanged(source, new Call("removeMessage behind the last message",
                    x -> x.removeMessage(none)), ARGUMENT);
            dueUnchanged(source, new Call("setColor behind the last message",
                    x -> x.setColor(none, 3)), ARGUMENT);
        }
    }

    private static void addWrongFontCalls(List<Call> calls) {
        for (int wrong : new int[] {-1, 27, Integer.MIN_VALUE, Integer.MAX_VALUE}) {
            calls.add(new Call("setGlyphWidth(" + wrong + ", 1)", x -> x.setGlyphWidth(wrong, 1)));
            calls.add(new Call("setGlyphColumn(" + wrong + ", 0, 1)",
                    x -> x.setGlyphColumn(wrong, 0, 1)));
            calls.add(new Call("glyphColumn(" + wrong + ", 0)", x -> x.glyphColumn(wrong, 0)));
            calls.add(new Call("append(" + wrong + ")", x -> x.append(wrong)));
        }
        for (int wrong : new int[] {0, 7, -1, Integer.MAX_VALUE}) {
            calls.add(new Call("setGlyphWidth(0, " + wrong + ")", x -> x.setGlyphWidth(0, wrong)));
        }
        for (int wrong : new int[] {-1, 3, 6, Integer.MAX_VALUE}) {
            calls.add(new Call("setGlyphColumn(0, " + wrong + ", 1)",
                    x -> x.setGlyphColumn(0, wrong, 1)));
        }
        for (int wrong : new int[] {-1, 256, Integer.MIN_VALUE, Integer.MAX_VALUE}) {
            calls.add(new Call("setGlyphColumn(0, 0, " + wrong + ")",
                    x -> x.setGlyphColumn(0, 0, wrong)));
        }
    }

    private static void addWrongMessageCalls(List<Call> calls) {
        for (int wrong : new int[] {-1, 7, Integer.MIN_VALUE, Integer.MAX_VALUE}) {
            calls.add(new Call("insertMessage(" + wrong + ", 1)", x -> x.insertMessage(wrong, 1)));
            calls.add(new Call("removeMessage(" + wrong + ")", x -> x.removeMessage(wrong)));
            calls.add(new Call("setColor(" + wrong + ", 1)", x -> x.setColor(wrong, 1)));
        }
        calls.add(new Call("removeMessage(6)", x -> x.removeMessage(6)));
        calls.add(new Call("setColor(6, 1)", x -> x.setColor(6, 1)));
        for (int wrong : new int[] {0, 4, -1, Integer.MAX_VALUE}) {
            calls.add(new Call("insertMessage(0, " + wrong + ")", x -> x.insertMessage(0, wrong)));
            calls.add(new Call("setColor(0, " + wrong + ")", x -> x.setColor(0, wrong)));
        }
    }

    private static void addWrongSettings(List<Call> calls) {
        for (int far : new int[] {Integer.MIN_VALUE, -3, 1000, Integer.MAX_VALUE}) {
            calls.add(new Call("setColumns(" + far + ")", x -> x.setColumns(far)));
            calls.add(new Call("setGap(" + far + ")", x -> x.setGap(far)));
            calls.add(new Call("setSpeed(" + far + ")", x -> x.setSpeed(far)));
            calls.add(new Call("setShift(" + far + ")", x -> x.setShift(far)));
            calls.add(new Call("setBudget(" + far + ")", x -> x.setBudget(far)));
            calls.add(new Call("setDefective(" + far + ", 0, true)",
                    x -> x.setDefective(far, 0, true)));
            calls.add(new Call("setDefective(0, " + far + ", true)",
                    x -> x.setDefective(0, far, true)));
        }
        calls.add(new Call("setColumns(7)", x -> x.setColumns(7)));
        calls.add(new Call("setColumns(33)", x -> x.setColumns(33)));
        calls.add(new Call("setGap(-1)", x -> x.setGap(-1)));
        calls.add(new Call("setGap(10)", x -> x.setGap(10)));
        calls.add(new Call("setSpeed(0)", x -> x.setSpeed(0)));
        calls.add(new Call("setSpeed(10)", x -> x.setSpeed(10)));
        calls.add(new Call("setShift(3)", x -> x.setShift(3)));
        calls.add(new Call("setBudget(0)", x -> x.setBudget(0)));
        calls.add(new Call("setDefective(-1, 0, true)", x -> x.setDefective(-1, 0, true)));
        calls.add(new Call("setDefective(8, 0, true)", x -> x.setDefective(8, 0, true)));
        calls.add(new Call("setDefective(8, 0, false)", x -> x.setDefective(8, 0, false)));
        calls.add(new Call("setDefective(0, -1, true)", x -> x.setDefective(0, -1, true)));
        calls.add(new Call("setDefective(0, 16, true)", x -> x.setDefective(0, 16, true)));
    }

    private static void addWrongLooks(List<Call> calls) {
        for (int wrong : new int[] {-1, 6, Integer.MIN_VALUE, Integer.MAX_VALUE}) {
            calls.add(new Call("glyphColumn(0, " + wrong + ")", x -> x.glyphColumn(0, wrong)));
            calls.add(new Call("messageWidth(" + wrong + ")", x -> x.messageWidth(wrong)));
            calls.add(new Call("messageStart(" + wrong + ")", x -> x.messageStart(wrong)));
            calls.add(new Call("ticksUntilWhole(" + wrong + ")", x -> x.ticksUntilWhole(wrong)));
        }
        for (int wrong : new int[] {-1, 16, Integer.MIN_VALUE, Integer.MAX_VALUE}) {
            calls.add(new Call("pixel(0, " + wrong + ")", x -> x.pixel(0, wrong)));
            calls.add(new Call("pixel(" + wrong + ", 0)", x -> x.pixel(wrong, 0)));
        }
        calls.add(new Call("pixel(8, 0)", x -> x.pixel(8, 0)));
        for (int wrong : new int[] {-1, 10000, Integer.MIN_VALUE, Integer.MAX_VALUE}) {
            calls.add(new Call("tick(" + wrong + ")", x -> x.tick(wrong)));
        }
        for (int wrong : new int[] {-3, 3, Integer.MIN_VALUE, Integer.MAX_VALUE}) {
            calls.add(new Call("damage(" + wrong + ")", x -> x.damage(wrong)));
        }
    }

    private static void wrongStatesChangeNothing() {
        dueUnchanged(MarqueeDisplay::new,
                new Call("insertMessage(0, 1) without text", x -> x.insertMessage(0, 1)), STATE);
        dueUnchanged(ErrorsTest::withSixMessagesAndNoText,
                new Call("insertMessage(3, 2) to 6", x -> x.insertMessage(3, 2)), STATE);
        dueUnchanged(ErrorsTest::busy,
                new Call("setDefective(0, 0, false)", x -> x.setDefective(0, 0, false)), STATE);
        dueUnchanged(ErrorsTest::busy,
                new Call("setDefective(2, 1, true)", x -> x.setDefective(2, 1, true)), STATE);
        dueUnchanged(ErrorsTest::busy,
                new Call("setDefective(7, 9, true)", x -> x.setDefective(7, 9, true)), STATE);
    }

    private static void reachedLimitsChangeNothing() {
        dueUnchanged(ErrorsTest::full, new Call("append(26) to 12", x -> x.append(26)), LIMIT);
        for (int index = 0; index <= 6; index++) {
            int number = index;
            dueUnchanged(ErrorsTest::full, new Call("insertMessage(" + index + ", 1) to 6",
                    x -> x.insertMessage(number, 1)), LIMIT);
        }
    }

    private static void missingElementsChangeNothing() {
        dueUnchanged(ErrorsTest::busy,
                new Call("glyphColumn(0, 3)", x -> x.glyphColumn(0, 3)), MISSING);
        dueUnchanged(ErrorsTest::busy,
                new Call("ticksUntilWhole(1)", x -> x.ticksUntilWhole(1)), MISSING);
        dueUnchanged(MarqueeDisplay::new, new Call("peakOffset()", x -> x.peakOffset()), MISSING);
    }
}
