import java.util.ArrayList;
import java.util.List;

/** The document once more, written LED by LED and tick by tick, to compare the program with. */
final class PlainModel {
    private static final int ARGUMENT = -11;
    private static final int STATE = -12;
    private static final int LIMIT = -13;
    private static final int MISSING = -14;

    private record Message(List<Integer> text, int color) {
    }

    private record Dots(boolean[] rows, int color, int message) {
    }

    private final List<List<Integer>> glyphs = new ArrayList<>();
    private final List<Integer> buffer = new ArrayList<>();
    private final List<Message> messages = new ArrayList<>();
    private boolean[][] defective = new boolean[8][16];
    private int columns = 16;
    private int gap = 4;
    private int speed = 2;
    private int shift = 0;
    private int budget = 60;
    private int offset = 0;
    private int counter = 0;

    PlainModel() {
        for (int c = 0; c < 27; c++) {
            List<Integer> glyph = new ArrayList<>();
            for (int j = 0; j < (c == 26 ? 2 : 3 + (c % 3)); j++) {
                glyph.add(c == 26 ? 0 : ((c + 1) * (j + 2) * 29 + 17 * j) % 256);
            }
            glyphs.add(glyph);
        }
    }

    private static boolean outside(int value, int low, int high) {
        return value < low || value > high;
    }

    private List<Dots> strip() {
        List<Dots> strip = new ArrayList<>();
        for (int m = 0; m < messages.size(); m++) {
            Message message = messages.get(m);
            boolean first = true;
            for (int character : message.text()) {
                if (!first) {
                    strip.add(new Dots(new boolean[8], 0, m));
                }
                first = false;
                for (int bits : glyphs.get(character)) {
                    boolean[] rows = new boolean[8];
                    for (int r = 0; r < 8; r++) {
                        rows[r] = bits / (int) Math.pow(2, r) % 2 == 1;
                    }
                    strip.add(new Dots(rows, message.color(), m));
                }
            }
            for (int i = 0; i < gap; i++) {
                strip.add(new Dots(new boolean[8], 0, -1));
            }
        }
        return strip;
    }

    private void edited() {
        if (offset >= strip().size()) {
            offset = 0;
        }
    }

    int setGlyphWidth(int character, int width) {
        if (outside(character, 0, 26) || outside(width, 1, 6)) {
            return ARGUMENT;
        }
        List<Integer> glyph = glyphs.get(character);
        int previous = glyph.size();
        while (glyph.size() < width) {
            glyph.add(0);
        }
        while (glyph.size() > width) {
            glyph.remove(glyph.size() - 1);
        }
        edited();
        return previous;
    }

    int setGlyphColumn(int character, int column, int bits) {
        if (outside(character, 0, 26) || outside(bits, 0, 255)
                || outside(column, 0, glyphs.get(character).size() - 1)) {
            return ARGUMENT;
        }
        return glyphs.get(character).set(column, bits);
    }

    int glyphColumn(int character, int column) {
        if (outside(character, 0, 26) || outside(column, 0, 5)) {
            return ARGUMENT;
        }
        List<Integer> glyph = glyphs.get(character);
        return column < glyph.size() ? glyph.get(column) : MISSING;
    }

    int append(int character) {
        if (outside(character, 0, 26)) {
            return ARGUMENT;
        }
        if (buffer.size() == 12) {
            return LIMIT;
        }
        buffer.add(character);
        return buffer.size();
    }

    int clearText() {
        int previous = buffer.size();
        buffer.clear();
        return previous;
    }

    int insertMessage(int index, int color) {
        if (outside(index, 0, messages.size()) || outside(color, 1, 3)) {
            return ARGUMENT;
        }
        if (buffer.isEmpty()) {
            return STATE;
        }
        if (messages.size() == 6) {
            return LIMIT;
        }
        messages.add(index, new Message(List.copyOf(buffer), color));
        edited();
        return strip().size();
    }

    int removeMessage(int index) {
        if (outside(index, 0, messages.size() - 1)) {
            return ARGUMENT;
        }
        messages.remove(index);
        edited();
        return strip().size();
    }

    int setColor(int index, int color) {
        if (outside(index, 0, messages.size() - 1) || outside(color, 1, 3)) {
            return ARGUMENT;
        }
        Message message = messages.get(index);
        messages.set(index, new Message(message.text(), color));
        return message.color();
    }

    int messageWidth(int index) {
        if (outside(index, 0, messages.size() - 1)) {
            return ARGUMENT;
        }
        return (int) strip().stream().filter(dots -> dots.message() == index).count();
    }

    int messageStart(int index) {
        if (outside(index, 0, messages.size() - 1)) {
            return ARGUMENT;
        }
        int start = 0;
        List<Dots> strip = strip();
        while (strip.get(start).message() != index) {
            start++;
        }
        return start;
    }

    int setColumns(int columns) {
        if (outside(columns, 8, 32)) {
            return ARGUMENT;
        }
        int previous = this.columns;
        boolean[][] kept = new boolean[8][columns];
        for (int row = 0; row < 8; row++) {
            for (int column = 0; column < Math.min(columns, previous); column++) {
                kept[row][column] = defective[row][column];
            }
        }
        defective = kept;
        this.columns = columns;
        return previous;
    }

    int setGap(int gap) {
        if (outside(gap, 0, 9)) {
            return ARGUMENT;
        }
        int previous = this.gap;
        this.gap = gap;
        edited();
        return previous;
    }

    int setSpeed(int speed) {
        if (outside(speed, 1, 9)) {
            return ARGUMENT;
        }
        int previous = this.speed;
        this.speed = speed;
        counter = 0;
        return previous;
    }

    int setShift(int shift) {
        if (outside(shift, -2, 2)) {
            return ARGUMENT;
        }
        int previous = this.shift;
        this.shift = shift;
        return previous;
    }

    int setBudget(int budget) {
        if (outside(budget, 1, 999)) {
            return ARGUMENT;
        }
        int previous = this.budget;
        this.budget = budget;
        return previous;
    }

    int setDefective(int row, int column, boolean state) {
        if (outside(row, 0, 7) || outside(column, 0, columns - 1)) {
            return ARGUMENT;
        }
        if (defective[row][column] == state) {
            return STATE;
        }
        defective[row][column] = state;
        int count = 0;
        for (boolean[] leds : defective) {
            for (boolean led : leds) {
                count += led ? 1 : 0;
            }
        }
        return count;
    }

    int tick(int ticks) {
        if (outside(ticks, 0, 9999)) {
            return ARGUMENT;
        }
        int length = strip().size();
        for (int i = 0; i < ticks; i++) {
            counter++;
            if (counter == speed) {
                counter = 0;
                offset = length == 0 ? 0 : (offset + 1) % length;
            }
        }
        return offset;
    }

    int offset() {
        return offset;
    }

    int stripLength() {
        return strip().size();
    }

    /** Found by letting ticks go by until the state is the same again. */
    int period() {
        int length = strip().size();
        if (length == 0) {
            return 0;
        }
        int o = offset;
        int c = counter;
        for (int ticks = 1; ; ticks++) {
            c++;
            if (c == speed) {
                c = 0;
                o = (o + 1) % length;
            }
            if (o == offset && c == counter) {
                return ticks;
            }
        }
    }

    /** Found by letting ticks go by and looking for the message each time. */
    int ticksUntilWhole(int index) {
        if (outside(index, 0, messages.size() - 1)) {
            return ARGUMENT;
        }
        int width = messageWidth(index);
        if (width > columns) {
            return MISSING;
        }
        int length = strip().size();
        int start = messageStart(index);
        int o = offset;
        int c = counter;
        for (int ticks = 0; ; ticks++) {
            if (isWhole(start, width, o, length)) {
                return ticks;
            }
            c++;
            if (c == speed) {
                c = 0;
                o = (o + 1) % length;
            }
        }
    }

    private boolean isWhole(int start, int width, int from, int length) {
        for (int left = 0; left + width <= columns; left++) {
            boolean whole = true;
            for (int i = 0; i < width; i++) {
                whole &= (from + left + i) % length == start + i;
            }
            if (whole) {
                return true;
            }
        }
        return false;
    }

    private int active(List<Dots> strip, int from, int row, int column) {
        if (strip.isEmpty()) {
            return 0;
        }
        Dots dots = strip.get((from + column) % strip.size());
        int source = row - shift;
        return source >= 0 && source < 8 && dots.rows()[source] ? dots.color() : 0;
    }

    int pixel(int row, int column) {
        if (outside(row, 0, 7) || outside(column, 0, columns - 1)) {
            return ARGUMENT;
        }
        return defective[row][column] ? 0 : active(strip(), offset, row, column);
    }

    private int loadAt(List<Dots> strip, int from) {
        int load = 0;
        for (int row = 0; row < 8; row++) {
            for (int column = 0; column < columns; column++) {
                int color = defective[row][column] ? 0 : active(strip, from, row, column);
                load += color == 3 ? 2 : color == 0 ? 0 : 1;
            }
        }
        return load;
    }

    int load() {
        return loadAt(strip(), offset);
    }

    int brightness() {
        int load = load();
        return load <= budget ? 15 : 15 * budget / load;
    }

    int peakLoad() {
        List<Dots> strip = strip();
        int peak = 0;
        for (int from = 0; from < strip.size(); from++) {
            peak = Math.max(peak, loadAt(strip, from));
        }
        return peak;
    }

    int peakOffset() {
        List<Dots> strip = strip();
        int peak = peakLoad();
        for (int from = 0; from < strip.size(); from++) {
            if (loadAt(strip, from) == peak) {
                return from;
            }
        }
        return MISSING;
    }

    int damage(int shift) {
        if (outside(shift, -2, 2)) {
            return ARGUMENT;
        }
        List<Dots> strip = strip();
        int damage = 0;
        for (int column = 0; column < columns && !strip.isEmpty(); column++) {
            Dots dots = strip.get((offset + column) % strip.size());
            for (int r = 0; r < 8; r++) {
                int row = r + shift;
                if (dots.rows()[r] && (row < 0 || row > 7 || defective[row][column])) {
                    damage++;
                }
            }
        }
        return damage;
    }

    private boolean isBetter(int one, int other) {
        if (damage(one) != damage(other)) {
            return damage(one) < damage(other);
        }
        if (Math.abs(one) != Math.abs(other)) {
            return Math.abs(one) < Math.abs(other);
        }
        return one < other;
    }

    int adoptBestShift() {
        int best = -2;
        for (int other = -1; other <= 2; other++) {
            best = isBetter(other, best) ? other : best;
        }
        shift = best;
        return damage(best);
    }
}
