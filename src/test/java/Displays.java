/** Displays to start a test from. */
final class Displays {
    private Displays() {
    }

    /** A display whose text buffer holds these characters. */
    static MarqueeDisplay withText(int... characters) {
        MarqueeDisplay x = new MarqueeDisplay();
        setText(x, characters);
        return x;
    }

    static void setText(MarqueeDisplay x, int... characters) {
        x.clearText();
        for (int character : characters) {
            x.append(character);
        }
    }

    /** Gap 0 and one message, the letter a, one column wide: every matrix column shows the dots. */
    static MarqueeDisplay withSameColumns(int dots, int color) {
        MarqueeDisplay x = withText(0);
        x.setGlyphWidth(0, 1);
        x.setGlyphColumn(0, 0, dots);
        x.setGap(0);
        x.insertMessage(0, color);
        return x;
    }

    /** A strip of gap + 1 columns, dark but for column 0, which has all eight dots. */
    static MarqueeDisplay withOneColumn(int gap, int color) {
        MarqueeDisplay x = withSameColumns(255, color);
        x.setGap(gap);
        return x;
    }

    /** As many messages as asked for, each one the letter a, three columns wide, in red. */
    static MarqueeDisplay withMessages(int count) {
        MarqueeDisplay x = withText(0);
        for (int i = 0; i < count; i++) {
            x.insertMessage(i, 1);
        }
        return x;
    }

    /** The same character many times. */
    static int[] repeated(int character, int count) {
        int[] text = new int[count];
        for (int i = 0; i < count; i++) {
            text[i] = character;
        }
        return text;
    }
}
