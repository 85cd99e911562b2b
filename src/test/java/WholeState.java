import java.util.function.Supplier;

/** All that calls tell of a display, to find out whether two displays are in the same state. */
final class WholeState {
    private static final int ARGUMENT = -11;

    private WholeState() {
    }

    /**
     * What the displays tell that the source makes, all of them alike. Several are needed, since a
     * display is good for 512 calls and since a look at the buffer or at a counter changes it.
     */
    static String of(Supplier<MarqueeDisplay> source) {
        StringBuilder state = new StringBuilder();
        tellPicture(source.get(), state);
        tellFontAndMessages(source.get(), state);
        tellDefects(source.get(), state);
        tellStrips(source.get(), state);
        tellSettings(source.get(), state);
        return state.toString();
    }

    private static void tell(StringBuilder state, String call, int answer) {
        state.append(call).append(' ').append(answer).append('\n');
    }

    private static int columnsOf(MarqueeDisplay x) {
        int columns = 0;
        while (x.pixel(0, columns) != ARGUMENT) {
            columns++;
        }
        return columns;
    }

    private static void tellPicture(MarqueeDisplay x, StringBuilder state) {
        int columns = columnsOf(x);
        for (int row = 0; row < 8; row++) {
            for (int column = 0; column < columns; column++) {
                tell(state, "pixel", x.pixel(row, column));
            }
        }
        tell(state, "offset", x.offset());
        tell(state, "stripLength", x.stripLength());
        tell(state, "period", x.period());
        tell(state, "load", x.load());
        tell(state, "brightness", x.brightness());
        tell(state, "peakLoad", x.peakLoad());
        tell(state, "peakOffset", x.peakOffset());
        for (int shift = -2; shift <= 2; shift++) {
            tell(state, "damage", x.damage(shift));
        }
    }

    private static void tellFontAndMessages(MarqueeDisplay x, StringBuilder state) {
        for (int character = 0; character <= 26; character++) {
            for (int column = 0; column < 6; column++) {
                tell(state, "glyphColumn", x.glyphColumn(character, column));
            }
        }
        for (int index = 0; index < 7; index++) {
            tell(state, "messageWidth", x.messageWidth(index));
            tell(state, "messageStart", x.messageStart(index));
            tell(state, "ticksUntilWhole", x.ticksUntilWhole(index));
            tell(state, "setColor", x.setColor(index, 1));
        }
    }

    private static void tellDefects(MarqueeDisplay x, StringBuilder state) {
        int columns = columnsOf(x);
        for (int row = 0; row < 8; row++) {
            for (int column = 0; column < columns; column++) {
                tell(state, "setDefective", x.setDefective(row, column, true));
            }
        }
    }

    /** The strip once round, then the strip of one message with the text of the buffer. */
    private static void tellStrips(MarqueeDisplay x, StringBuilder state) {
        x.setSpeed(1);
        x.setColumns(8);
        tellStrip(x, state);
        while (x.removeMessage(0) != ARGUMENT) {
            tell(state, "offset", x.offset());
        }
        tell(state, "insertMessage", x.insertMessage(0, 1));
        tellStrip(x, state);
        tell(state, "clearText", x.clearText());
    }

    private static void tellStrip(MarqueeDisplay x, StringBuilder state) {
        int length = x.stripLength();
        for (int i = 0; i < length; i++) {
            tell(state, "load", x.load());
            tell(state, "pixel", x.pixel(3, 0));
            tell(state, "tick", x.tick(1));
        }
    }

    private static void tellSettings(MarqueeDisplay x, StringBuilder state) {
        for (int ticks = 0; ticks < 9; ticks++) {
            tell(state, "tick", x.tick(1));
        }
        tell(state, "setColumns", x.setColumns(8));
        tell(state, "setGap", x.setGap(0));
        tell(state, "setSpeed", x.setSpeed(1));
        tell(state, "setShift", x.setShift(0));
        tell(state, "setBudget", x.setBudget(1));
    }
}
