/** Promises 2 (encode) and 3 (decode). */
public final class CodeTest {
    private static final Due DUE = new Due();
    private static final int[] LACK = {63, 95, 111, 119, 123, 125, 126, 159, 175, 183, 187, 189};

    public static void main(String[] args) {
        evenWords();
        unevenWords();
        wordsWithoutMeaning();
        numbersOutside();
        DUE.end();
    }

    private static void evenWords() {
        StoragePath x = new StoragePath();
        int number = 0;
        for (int word = 0; word < 1024; word++) {
            if (Integer.bitCount(word) == 5) {
                DUE.is("encode(" + number + ")", x.encode(number, number % 2 == 0), word);
                DUE.is("decode(" + word + ", false)", x.decode(word, false), number);
                DUE.is("decode(" + word + ", true)", new StoragePath().decode(word, true), number);
                number++;
            }
        }
        DUE.is("even words", number, 252);
    }

    private static void unevenWords() {
        StoragePath x = new StoragePath();
        for (int i = 0; i < 12; i++) {
            int word = LACK[i];
            DUE.is("encode by lack " + i, x.encode(252 + i, false), word);
            DUE.is("encode by excess " + i, x.encode(252 + i, true), 1023 - word);
            DUE.is("decode by lack " + word, x.decode(word, false), 252 + i);
            DUE.is("decode by excess " + word, x.decode(1023 - word, true), 252 + i);
            DUE.is("decode, turned " + word, x.decode(word, true), StoragePath.NONE);
            DUE.is("decode, turned " + (1023 - word), x.decode(1023 - word, false), StoragePath.NONE);
        }
    }

    private static void wordsWithoutMeaning() {
        StoragePath x = new StoragePath();
        int without = 0;
        for (int word = 0; word < 1024; word += 1) {
            x = word % 200 == 0 ? new StoragePath() : x;
            boolean none = x.decode(word, false) == StoragePath.NONE && x.decode(word, true) == StoragePath.NONE;
            without += none ? 1 : 0;
        }
        DUE.is("words without meaning", without, 1024 - 252 - 24);
        DUE.is("the 13th word with six ones", x.decode(190, false), StoragePath.NONE);
        DUE.is("the same, turned", x.decode(1023 - 190, true), StoragePath.NONE);
        DUE.is("decode(0)", x.decode(0, false), StoragePath.NONE);
        DUE.is("decode(1023)", x.decode(1023, true), StoragePath.NONE);
    }

    private static void numbersOutside() {
        StoragePath x = new StoragePath();
        int[] values = {Integer.MIN_VALUE, -1, 264, 1023, Integer.MAX_VALUE};
        int[] words = {Integer.MIN_VALUE, -1, 1024, Integer.MAX_VALUE};
        for (boolean excess : new boolean[] {false, true}) {
            for (int value : values) {
                DUE.is("encode(" + value + ")", x.encode(value, excess), StoragePath.OUTSIDE);
            }
            for (int word : words) {
                DUE.is("decode(" + word + ")", x.decode(word, excess), StoragePath.OUTSIDE);
            }
        }
    }
}
