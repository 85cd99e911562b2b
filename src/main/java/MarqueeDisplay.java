/**
 * A controller for a scrolling two-color LED matrix with an editable font, a circular strip of
 * messages, a brightness budget, and defective LEDs that are avoided by a vertical shift.
 *
 * <p>Every object that a call needs is made by the constructor; no call makes another one.
 */
public final class MarqueeDisplay {
    public static final int INVALID_ARGUMENT = -11;
    public static final int INVALID_STATE = -12;
    public static final int LIMIT_REACHED = -13;
    public static final int NOT_FOUND = -14;

    private static final int LETTERS = 26;
    private static final int BLANK = 26;
    private static final int CHARACTERS = 27;
    private static final int MAX_GLYPH_WIDTH = 6;
    private static final int BLANK_WIDTH = 2;

    private static final int MAX_TEXT = 12;
    private static final int MAX_MESSAGES = 6;
    private static final int RED = 1;
    private static final int YELLOW = 3;
    private static final int DARK = 0;

    private static final int ROWS = 8;
    private static final int ALL_ROWS = 255;
    private static final int MIN_COLUMNS = 8;
    private static final int MAX_COLUMNS = 32;
    private static final int MAX_GAP = 9;
    private static final int MAX_SPEED = 9;
    private static final int MAX_SHIFT = 2;
    private static final int MAX_BUDGET = 999;
    private static final int MAX_TICKS = 9999;
    private static final int MAX_BRIGHTNESS = 15;

    private static final int MAX_STRIP =
            MAX_MESSAGES * (MAX_TEXT * MAX_GLYPH_WIDTH + (MAX_TEXT - 1) + MAX_GAP);

    // Of two shifts with the same damage, the one that stands first here is the better one.
    private static final int[] SHIFTS_BEST_FIRST = {0, -1, 1, -2, 2};

    private final Font font = new Font();
    private final Text buffer = new Text();
    private final MessageList messages = new MessageList();
    private final Strip strip = new Strip();
    // A mask for each column, also for those that the matrix does not have now: these stay 0.
    private final int[] defects = new int[MAX_COLUMNS];
    private int columns = 16;
    private int gap = 4;
    private int speed = 2;
    private int shift = 0;
    private int budget = 60;
    private int offset = 0;
    private int counter = 0;

    public MarqueeDisplay() {
    }

    // ---- font

    public int setGlyphWidth(int character, int width) {
        if (!isCharacter(character) || !isWithin(width, 1, MAX_GLYPH_WIDTH)) {
            return INVALID_ARGUMENT;
        }
        int previous = font.widthOf(character);
        font.resize(character, width);
        layOutStrip();
        return previous;
    }

    public int setGlyphColumn(int character, int column, int bits) {
        if (!isCharacter(character) || !isWithin(bits, 0, ALL_ROWS)
                || !font.hasColumn(character, column)) {
            return INVALID_ARGUMENT;
        }
        int previous = font.dotsOf(character, column);
        font.draw(character, column, bits);
        layOutStrip();
        return previous;
    }

    public int glyphColumn(int character, int column) {
        if (!isCharacter(character) || !isWithin(column, 0, MAX_GLYPH_WIDTH - 1)) {
            return INVALID_ARGUMENT;
        }
        if (!font.hasColumn(character, column)) {
            return NOT_FOUND;
        }
        return font.dotsOf(character, column);
    }

    // ---- messages

    public int append(int character) {
        if (!isCharacter(character)) {
            return INVALID_ARGUMENT;
        }
        if (buffer.length >= MAX_TEXT) {
            return LIMIT_REACHED;
        }
        buffer.add(character);
        return buffer.length;
    }

    public int clearText() {
        int previous = buffer.length;
        buffer.empty();
        return previous;
    }

    public int insertMessage(int index, int color) {
        if (!isWithin(index, 0, messages.count) || !isColor(color)) {
            return INVALID_ARGUMENT;
        }
        if (buffer.length == 0) {
            return INVALID_STATE;
        }
        if (messages.count >= MAX_MESSAGES) {
            return LIMIT_REACHED;
        }
        messages.insert(index, buffer, color);
        layOutStrip();
        return strip.length;
    }

    public int removeMessage(int index) {
        if (messages.find(index) == null) {
            return INVALID_ARGUMENT;
        }
        messages.remove(index);
        layOutStrip();
        return strip.length;
    }

    public int setColor(int index, int color) {
        Message message = messages.find(index);
        if (message == null || !isColor(color)) {
            return INVALID_ARGUMENT;
        }
        int previous = message.color;
        message.color = color;
        layOutStrip();
        return previous;
    }

    public int messageWidth(int index) {
        Message message = messages.find(index);
        return message == null ? INVALID_ARGUMENT : message.width;
    }

    public int messageStart(int index) {
        Message message = messages.find(index);
        return message == null ? INVALID_ARGUMENT : message.start;
    }

    // ---- settings

    public int setColumns(int columns) {
        if (!isWithin(columns, MIN_COLUMNS, MAX_COLUMNS)) {
            return INVALID_ARGUMENT;
        }
        int previous = this.columns;
        this.columns = columns;
        for (int column = columns; column < defects.length; column++) {
            defects[column] = 0;
        }
        return previous;
    }

    public int setGap(int gap) {
        if (!isWithin(gap, 0, MAX_GAP)) {
            return INVALID_ARGUMENT;
        }
        int previous = this.gap;
        this.gap = gap;
        layOutStrip();
        return previous;
    }

    public int setSpeed(int speed) {
        if (!isWithin(speed, 1, MAX_SPEED)) {
            return INVALID_ARGUMENT;
        }
        int previous = this.speed;
        this.speed = speed;
        counter = 0;
        return previous;
    }

    public int setShift(int shift) {
        if (!isShift(shift)) {
            return INVALID_ARGUMENT;
        }
        int previous = this.shift;
        this.shift = shift;
        return previous;
    }

    public int setBudget(int budget) {
        if (!isWithin(budget, 1, MAX_BUDGET)) {
            return INVALID_ARGUMENT;
        }
        int previous = this.budget;
        this.budget = budget;
        return previous;
    }

    public int setDefective(int row, int column, boolean defective) {
        if (!isLed(row, column)) {
            return INVALID_ARGUMENT;
        }
        if (isDefective(row, column) == defective) {
            return INVALID_STATE;
        }
        flipDefect(row, column);
        return countDefects();
    }

    // ---- time

    public int tick(int ticks) {
        if (!isWithin(ticks, 0, MAX_TICKS)) {
            return INVALID_ARGUMENT;
        }
        if (speed > 0) {
            int counted = counter + ticks;
            counter = counted % speed;
            offset = strip.wrap(offset + counted / speed);
        }
        return offset;
    }

    public int offset() {
        return offset;
    }

    public int stripLength() {
        return strip.length;
    }

    public int period() {
        return strip.length * speed;
    }

    public int ticksUntilWhole(int index) {
        Message message = messages.find(index);
        if (message == null) {
            return INVALID_ARGUMENT;
        }
        int lastFit = columns - message.width;
        if (lastFit < 0) {
            return NOT_FOUND;
        }
        // With each move the message comes one column nearer to the left edge, so it is whole as
        // soon as its first column has come to the last place from which the rest still fits.
        int place = strip.wrap(message.start - offset);
        return place <= lastFit ? 0 : (place - lastFit) * speed - counter;
    }

    // ---- picture

    public int pixel(int row, int column) {
        if (!isLed(row, column)) {
            return INVALID_ARGUMENT;
        }
        boolean lit = ((litRows(offset, column) >> row) & 1) == 1;
        return lit ? strip.colorAt(offset + column) : DARK;
    }

    public int load() {
        return loadFrom(offset);
    }

    public int brightness() {
        int load = loadFrom(offset);
        if (load <= 0 || load <= budget) {
            return MAX_BRIGHTNESS;
        }
        return MAX_BRIGHTNESS * budget / load;
    }

    public int peakLoad() {
        return loadFrom(heaviestOffset());
    }

    public int peakOffset() {
        return strip.length == 0 ? NOT_FOUND : heaviestOffset();
    }

    public int damage(int shift) {
        if (!isShift(shift)) {
            return INVALID_ARGUMENT;
        }
        return damageWith(shift);
    }

    public int adoptBestShift() {
        int best = 0;
        int least = damageWith(0);
        for (int candidate : SHIFTS_BEST_FIRST) {
            int damage = damageWith(candidate);
            if (damage < least) {
                best = candidate;
                least = damage;
            }
        }
        shift = best;
        return least;
    }

    // ---- what the calls have in common

    private static boolean isWithin(int value, int low, int high) {
        return low <= value && value <= high;
    }

    private static boolean isCharacter(int character) {
        return isWithin(character, 0, CHARACTERS - 1);
    }

    private static boolean isColor(int color) {
        return isWithin(color, RED, YELLOW);
    }

    private static boolean isShift(int shift) {
        return isWithin(shift, -MAX_SHIFT, MAX_SHIFT);
    }

    private boolean isLed(int row, int column) {
        return isWithin(row, 0, ROWS - 1) && isWithin(column, 0, columns - 1);
    }

    private void layOutStrip() {
        strip.layOut(messages, font, gap);
        if (offset >= strip.length) {
            offset = 0;
        }
    }

    private int defectsOf(int column) {
        return isWithin(column, 0, defects.length - 1) ? defects[column] : 0;
    }

    private boolean isDefective(int row, int column) {
        return ((defectsOf(column) >> row) & 1) == 1;
    }

    private void flipDefect(int row, int column) {
        if (isWithin(column, 0, defects.length - 1)) {
            defects[column] ^= 1 << row;
        }
    }

    private int countDefects() {
        int count = 0;
        for (int mask : defects) {
            count += Integer.bitCount(mask);
        }
        return count;
    }

    /** The dots of a strip column that a shift leaves on the matrix, in the rows that show them. */
    private static int shifted(int dots, int shift) {
        return shift < 0 ? dots >> -shift : (dots << shift) & ALL_ROWS;
    }

    private int litRows(int from, int column) {
        return shifted(strip.dotsAt(from + column), shift) & ~defectsOf(column);
    }

    private int loadFrom(int from) {
        int load = 0;
        for (int column = 0; column < columns; column++) {
            int weight = strip.colorAt(from + column) == YELLOW ? 2 : 1;
            load += weight * Integer.bitCount(litRows(from, column));
        }
        return load;
    }

    private int heaviestOffset() {
        int heaviest = 0;
        int peak = -1;
        for (int from = 0; from < strip.length; from++) {
            int load = loadFrom(from);
            if (load > peak) {
                heaviest = from;
                peak = load;
            }
        }
        return heaviest;
    }

    private int damageWith(int otherShift) {
        int damage = 0;
        for (int column = 0; column < columns; column++) {
            int dots = strip.dotsAt(offset + column);
            int kept = shifted(dots, otherShift) & ~defectsOf(column);
            damage += Integer.bitCount(dots) - Integer.bitCount(kept);
        }
        return damage;
    }

    // ---- the parts

    /** The glyphs. A column that its glyph does not have is kept as 0. */
    private static final class Font {
        private final int[] widths = new int[CHARACTERS];
        private final int[] dots = new int[CHARACTERS * MAX_GLYPH_WIDTH];

        Font() {
            for (int letter = 0; letter < LETTERS; letter++) {
                int width = 3 + letter % 3;
                widths[letter] = width;
                for (int column = 0; column < width; column++) {
                    dots[letter * MAX_GLYPH_WIDTH + column] =
                            ((letter + 1) * (column + 2) * 29 + 17 * column) % (ALL_ROWS + 1);
                }
            }
            widths[BLANK] = BLANK_WIDTH;
        }

        int widthOf(int character) {
            return character >= 0 && character < widths.length ? widths[character] : 0;
        }

        boolean hasColumn(int character, int column) {
            return isWithin(column, 0, widthOf(character) - 1);
        }

        int dotsOf(int character, int column) {
            if (character < 0 || character >= CHARACTERS
                    || column < 0 || column >= MAX_GLYPH_WIDTH) {
                return 0;
            }
            return dots[character * MAX_GLYPH_WIDTH + column];
        }

        void draw(int character, int column, int bits) {
            if (isCharacter(character) && isWithin(column, 0, MAX_GLYPH_WIDTH - 1)
                    && hasColumn(character, column)) {
                dots[character * MAX_GLYPH_WIDTH + column] = bits;
            }
        }

        void resize(int character, int width) {
            if (!isCharacter(character) || !isWithin(width, 1, MAX_GLYPH_WIDTH)) {
                return;
            }
            for (int column = width; column < MAX_GLYPH_WIDTH; column++) {
                dots[character * MAX_GLYPH_WIDTH + column] = 0;
            }
            widths[character] = width;
        }
    }

    /** Some characters in a row, at most MAX_TEXT. */
    private static final class Text {
        private final int[] characters = new int[MAX_TEXT];
        private int length;

        void add(int character) {
            if (isWithin(length, 0, characters.length - 1)) {
                characters[length] = character;
                length++;
            }
        }

        void empty() {
            length = 0;
        }

        int characterAt(int i) {
            return isWithin(i, 0, characters.length - 1) ? characters[i] : BLANK;
        }

        void copyFrom(Text other) {
            for (int i = 0; i < characters.length; i++) {
                characters[i] = other.characterAt(i);
            }
            length = other.length;
        }
    }

    /** A message and, since the last layout of the strip, where it stands there. */
    private static final class Message {
        private final Text text = new Text();
        private int color;
        private int start;
        private int width;
    }

    /** The messages by number. The slots behind the last one hold messages to be used again. */
    private static final class MessageList {
        private final Message[] slots = new Message[MAX_MESSAGES];
        private int count;

        MessageList() {
            for (int i = 0; i < slots.length; i++) {
                slots[i] = new Message();
            }
        }

        /** The message of this number, or null if there is none. */
        Message find(int index) {
            return isWithin(index, 0, last()) ? slots[index] : null;
        }

        private int last() {
            return Math.min(count, slots.length) - 1;
        }

        void insert(int index, Text text, int color) {
            if (count >= slots.length || !isWithin(index, 0, count) || slots[count] == null) {
                return;
            }
            Message added = slots[count];
            for (int i = count; i > index; i--) {
                slots[i] = slots[i - 1];
            }
            slots[index] = added;
            count++;
            added.text.copyFrom(text);
            added.color = color;
        }

        void remove(int index) {
            Message removed = find(index);
            if (removed == null) {
                return;
            }
            int last = last();
            for (int i = index; i < last; i++) {
                slots[i] = slots[i + 1];
            }
            slots[last] = removed;
            count = last;
        }
    }

    /** The columns that go round: the dots and the color of each. */
    private static final class Strip {
        private final int[] dots = new int[MAX_STRIP];
        private final int[] colors = new int[MAX_STRIP];
        private int length;

        void layOut(MessageList messages, Font font, int gap) {
            length = 0;
            for (int i = 0; i < messages.count; i++) {
                Message message = messages.find(i);
                if (message != null) {
                    addMessage(message, font);
                    addDark(gap);
                }
            }
        }

        private void addMessage(Message message, Font font) {
            message.start = length;
            for (int i = 0; i < message.text.length; i++) {
                addDark(i == 0 ? 0 : 1);
                addGlyph(message.text.characterAt(i), message.color, font);
            }
            message.width = length - message.start;
        }

        private void addGlyph(int character, int color, Font font) {
            for (int column = 0; column < font.widthOf(character); column++) {
                addColumn(font.dotsOf(character, column), color);
            }
        }

        private void addDark(int count) {
            for (int i = 0; i < count; i++) {
                addColumn(0, DARK);
            }
        }

        private void addColumn(int columnDots, int color) {
            if (length < dots.length && length < colors.length) {
                dots[length] = columnDots;
                colors[length] = color;
                length++;
            }
        }

        /** The strip column that a place is after all rounds are taken off; 0 on an empty strip. */
        int wrap(int place) {
            return length > 0 ? Math.floorMod(place, length) : 0;
        }

        int dotsAt(int place) {
            int column = wrap(place);
            return column < length && column < dots.length ? dots[column] : 0;
        }

        int colorAt(int place) {
            int column = wrap(place);
            return column < length && column < colors.length ? colors[column] : DARK;
        }
    }
}
