/** Long runs of mixed calls, each answer compared with the one of the plain model. */
public final class ModelTest {
    private static final int RUNS = 400;
    private static final int CALLS = 512;
    private static final int MOST_REPORTS = 20;

    private static long state = 20261119;

    private ModelTest() {
    }

    public static void main(String[] args) {
        for (int run = 0; run < RUNS && Due.wrong() < MOST_REPORTS; run++) {
            MarqueeDisplay program = new MarqueeDisplay();
            PlainModel model = new PlainModel();
            for (int call = 0; call < CALLS && Due.wrong() < MOST_REPORTS; call++) {
                compareOneCall("run " + run + ", call " + call + ": ", program, model);
            }
        }
        Due.end();
    }

    /** The next number of a fixed sequence, from low to high. */
    private static int next(int low, int high) {
        state = state * 6364136223846793005L + 1442695040888963407L;
        return low + (int) Long.remainderUnsigned(state >>> 33, high - low + 1L);
    }

    /** Mostly a number from low to high, now and then one just outside or far outside. */
    private static int argument(int low, int high) {
        switch (next(0, 24)) {
            case 0: return low - 1;
            case 1: return high + 1;
            case 2: return next(0, 1) == 0 ? Integer.MIN_VALUE : Integer.MAX_VALUE;
            case 3: return low;
            case 4: return high;
            default: return next(low, high);
        }
    }

    private static void compareOneCall(String where, MarqueeDisplay x, PlainModel y) {
        int kind = next(0, 39);
        if (kind < 22) {
            compareChange(where, x, y, kind);
        } else {
            compareLook(where, x, y, kind);
        }
    }

    private static void compareChange(String where, MarqueeDisplay x, PlainModel y, int kind) {
        int character = argument(0, 26);
        int index = argument(0, 5);
        int color = argument(1, 3);
        switch (kind) {
            case 0: {
                int width = argument(1, 6);
                Due.due(where + "setGlyphWidth(" + character + ", " + width + ")",
                        x.setGlyphWidth(character, width), y.setGlyphWidth(character, width));
                break;
            }
            case 1: {
                int column = argument(0, 4);
                int bits = argument(0, 255);
                Due.due(where + "setGlyphColumn(" + character + ", " + column + ", " + bits + ")",
                        x.setGlyphColumn(character, column, bits),
                        y.setGlyphColumn(character, column, bits));
                break;
            }
            case 2: case 3: case 4: case 5:
                Due.due(where + "append(" + character + ")",
                        x.append(character), y.append(character));
                break;
            case 6:
                Due.due(where + "clearText()", x.clearText(), y.clearText());
                break;
            case 7: case 8: case 9:
                Due.due(where + "insertMessage(" + index + ", " + color + ")",
                        x.insertMessage(index, color), y.insertMessage(index, color));
                break;
            case 10: case 11:
                Due.due(where + "removeMessage(" + index + ")",
                        x.removeMessage(index), y.removeMessage(index));
                break;
            case 12:
                Due.due(where + "setColor(" + index + ", " + color + ")",
                        x.setColor(index, color), y.setColor(index, color));
                break;
            default:
                compareSetting(where, x, y, kind);
        }
    }

    private static void compareSetting(String where, MarqueeDisplay x, PlainModel y, int kind) {
        int value;
        switch (kind) {
            case 13:
                value = argument(8, 32);
                Due.due(where + "setColumns(" + value + ")",
                        x.setColumns(value), y.setColumns(value));
                break;
            case 14:
                value = argument(0, 9);
                Due.due(where + "setGap(" + value + ")", x.setGap(value), y.setGap(value));
                break;
            case 15:
                value = argument(1, 9);
                Due.due(where + "setSpeed(" + value + ")", x.setSpeed(value), y.setSpeed(value));
                break;
            case 16:
                value = argument(-2, 2);
                Due.due(where + "setShift(" + value + ")", x.setShift(value), y.setShift(value));
                break;
            case 17:
                value = argument(1, next(0, 1) == 0 ? 60 : 999);
                Due.due(where + "setBudget(" + value + ")", x.setBudget(value), y.setBudget(value));
                break;
            case 18: case 19: {
                int row = argument(0, 7);
                int column = argument(0, 20);
                boolean defective = next(0, 3) > 0;
                Due.due(where + "setDefective(" + row + ", " + column + ", " + defective + ")",
                        x.setDefective(row, column, defective),
                        y.setDefective(row, column, defective));
                break;
            }
            case 20:
                value = argument(0, next(0, 3) == 0 ? 9999 : 40);
                Due.due(where + "tick(" + value + ")", x.tick(value), y.tick(value));
                break;
            default:
                Due.due(where + "adoptBestShift()", x.adoptBestShift(), y.adoptBestShift());
        }
    }

    private static void compareLook(String where, MarqueeDisplay x, PlainModel y, int kind) {
        int index = argument(0, 4);
        int character = argument(0, 26);
        int column = argument(0, 5);
        int row = argument(0, 7);
        int led = argument(0, 15);
        int shift = argument(-2, 2);
        switch (kind) {
            case 22: Due.due(where + "glyphColumn(" + character + ", " + column + ")",
                    x.glyphColumn(character, column), y.glyphColumn(character, column)); break;
            case 23: Due.due(where + "messageWidth(" + index + ")",
                    x.messageWidth(index), y.messageWidth(index)); break;
            case 24: Due.due(where + "messageStart(" + index + ")",
                    x.messageStart(index), y.messageStart(index)); break;
            case 25: Due.due(where + "offset()", x.offset(), y.offset()); break;
            case 26: Due.due(where + "stripLength()", x.stripLength(), y.stripLength()); break;
            case 27: Due.due(where + "period()", x.period(), y.period()); break;
            case 28: case 29: case 30: Due.due(where + "ticksUntilWhole(" + index + ")",
                    x.ticksUntilWhole(index), y.ticksUntilWhole(index)); break;
            case 31: case 32: Due.due(where + "pixel(" + row + ", " + led + ")",
                    x.pixel(row, led), y.pixel(row, led)); break;
            case 33: case 34: Due.due(where + "load()", x.load(), y.load()); break;
            case 35: Due.due(where + "brightness()", x.brightness(), y.brightness()); break;
            case 36: Due.due(where + "peakLoad()", x.peakLoad(), y.peakLoad()); break;
            case 37: Due.due(where + "peakOffset()", x.peakOffset(), y.peakOffset()); break;
            default: Due.due(where + "damage(" + shift + ")", x.damage(shift), y.damage(shift));
        }
    }
}
