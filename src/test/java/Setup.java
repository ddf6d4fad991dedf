/** Objects brought to a state, for tests to begin from, and numbers that lie outside of what a call takes. */
final class Setup {
    static final int LEAST = Integer.MIN_VALUE;
    static final int MOST = Integer.MAX_VALUE;

    // Beside each boundary, and with low bits that would do if the high ones were lost.
    static final int[] NO_LEVEL = {LEAST, LEAST + 1, -1, 0, 4, 5, 257, 65538, MOST};
    static final int[] NO_EIGHTHS = {LEAST, LEAST + 1, -1, 0, 9, 10, 257, 65538, MOST};
    static final int[] NO_SYMBOL = {LEAST, LEAST + 1, -1, 7, 8, 256, 65536, MOST};
    static final int[] NO_WORD = {LEAST, LEAST + 1, -1, 6, 7, 256, 65536, MOST};
    static final int[] NOT_TO_SAY = {LEAST, LEAST + 1, -1, 5, 6, 256, 65536, MOST};

    private Setup() {
    }

    /** Learns sentences, each written as its digits. */
    static SmoothedGrams learned(String... sentences) {
        SmoothedGrams x = new SmoothedGrams();
        learn(x, sentences);
        return x;
    }

    static void learn(SmoothedGrams x, String... sentences) {
        for (String sentence : sentences) {
            say(x, sentence);
            x.learn();
        }
    }

    static void say(SmoothedGrams x, String sentence) {
        for (char digit : sentence.toCharArray()) {
            x.word(digit - '0');
        }
    }
}
