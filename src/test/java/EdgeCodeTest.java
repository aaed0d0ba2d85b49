/** The edges that promises 1 to 3 name, and those of WORDS in the terms; a sentence a test. */
public final class EdgeCodeTest {
    private static final Due DUE = new Due();
    private static final int NONE = StoragePath.NONE, UNKNOWN = StoragePath.UNKNOWN, OUTSIDE = StoragePath.OUTSIDE;

    public static void main(String[] args) {
        newSectorsAreZero();
        newCacheIsEmpty();
        newPlanIsEmpty();
        newTagsAreFree();
        newWayIsZero();
        newHasSentNothing();
        evenRise();
        unevenAreTheFirstTwelve();
        excessTurnsAllTenBits();
        bytesBelow252AreEven();
        signsAreUneven();
        encodeTooSmall();
        encodeTooLarge();
        decodeTellsEachValueBack();
        decodeFindsWord();
        decodeFindsTurn();
        decodeTooSmall();
        decodeTooLarge();
        DUE.end();
    }

    /** 1: "All SECTORS 0" */
    private static void newSectorsAreZero() {
        StoragePath x = new StoragePath();
        for (int s = 0; s < 32; s++) {
            DUE.is("sector on the disk", x.sector(s, false), 0);
            DUE.is("sector as it reads", x.sector(s, true), 0);
        }
        x.read(0, 0, 4);
        x.read(1, 28, 4);
        x.drain();
        for (int tag = 0; tag < 2; tag++) {
            DUE.is("done", x.result(tag), 0);
            for (int i = 0; i < 4; i++) {
                DUE.is("read from a new disk", x.got(i), 0);
            }
        }
    }

    /** 1: "an empty CACHE" */
    private static void newCacheIsEmpty() {
        StoragePath x = new StoragePath();
        DUE.is("sectors of the cache", x.count(4), 0);
        DUE.is("its first place", x.cached(0), UNKNOWN);
        DUE.is("cut", x.cut(), 0);
    }

    /** 1: "an empty .. PLAN" */
    private static void newPlanIsEmpty() {
        StoragePath x = new StoragePath();
        DUE.is("faults", x.count(3), 0);
        DUE.is("calm", x.calm(), 0);
        DUE.is("a frame comes as it was", Calls.sendByte(x, 0), 0);
    }

    /** 1: "all TAGS FREE" */
    private static void newTagsAreFree() {
        StoragePath x = new StoragePath();
        for (int tag = 0; tag < 8; tag++) {
            DUE.is("state", x.state(tag), 0);
        }
        DUE.is("issued", x.count(5), 0);
        DUE.is("ended", x.count(6), 0);
        for (int tag = 0; tag < 8; tag++) {
            DUE.is("flush", x.flush(tag), 1);
        }
    }

    /** 1: "WAY 0": the one that was issued first, not the least sector, not the greatest tag. */
    private static void newWayIsZero() {
        StoragePath x = new StoragePath();
        x.read(4, 9, 1);
        x.read(3, 0, 1);
        x.read(7, 5, 1);
        DUE.is("issued first", x.step(), 4);
        DUE.is("issued next", x.step(), 3);
        DUE.is("way", x.way(0), 0);
    }

    /** 1: "no FRAME was SENT" */
    private static void newHasSentNothing() {
        StoragePath x = new StoragePath();
        for (int what = 0; what < 3; what++) {
            DUE.is("count(" + what + ")", x.count(what), 0);
        }
        DUE.is("bits of the last frame", x.count(9), 0);
        DUE.is("wire(0)", x.wire(0), UNKNOWN);
        DUE.is("finding(0)", x.finding(0), UNKNOWN);
        x.plan(0, 0);
        DUE.is("the first frame is number 0", Calls.sendByte(x, 0), 1);
    }

    /** Terms: "EVEN ones have five bits that are 1: rising, number 0 to 251." */
    private static void evenRise() {
        StoragePath x = new StoragePath();
        int before = -1;
        for (int v = 0; v < 252; v++) {
            int word = x.encode(v, false);
            DUE.is("ones of even word " + v, Integer.bitCount(word), 5);
            DUE.holds("even word " + v + " is above the one ahead", word > before);
            before = word;
        }
        DUE.is("the first", x.encode(0, false), 0b0000011111);
        DUE.is("the second", x.encode(1, false), 0b0000101111);
        DUE.is("the last but one", x.encode(250, false), 0b1111010000);
        DUE.is("the last", x.encode(251, false), 0b1111100000);
    }

    /** Terms: "by LACK the words with six bits that are 1, rising, the first twelve" */
    private static void unevenAreTheFirstTwelve() {
        StoragePath x = new StoragePath();
        DUE.is("the first", x.encode(252, false), 0b0000111111);
        DUE.is("the second", x.encode(253, false), 0b0001011111);
        DUE.is("the last but one", x.encode(262, false), 0b0010111011);
        DUE.is("the twelfth", x.encode(263, false), 0b0010111101);
        DUE.is("a thirteenth has no value", x.encode(264, false), OUTSIDE);
        DUE.is("a thirteenth tells nothing", x.decode(0b0010111110, false), NONE);
    }

    /** Terms: "by EXCESS these with all ten bits turned" */
    private static void excessTurnsAllTenBits() {
        StoragePath x = new StoragePath();
        for (int v = 252; v < 264; v++) {
            DUE.is("uneven " + v + " by excess", x.encode(v, true), 1023 - x.encode(v, false));
        }
        DUE.is("the first", x.encode(252, true), 0b1111000000);
        DUE.is("the twelfth", x.encode(263, true), 0b1101000010);
        DUE.is("a thirteenth tells nothing", x.decode(0b1101000001, true), NONE);
    }

    /** Terms: "A byte v below 252 is EVEN number v, else UNEVEN number v - 252"; EVEN is the same by both. */
    private static void bytesBelow252AreEven() {
        StoragePath x = new StoragePath();
        DUE.is("251 by lack", x.encode(251, false), 992);
        DUE.is("251 by excess", x.encode(251, true), 992);
        DUE.is("0 by excess", x.encode(0, true), 31);
        DUE.is("252 by lack", x.encode(252, false), 63);
        DUE.is("252 by excess", x.encode(252, true), 960);
        DUE.is("255 by lack", x.encode(255, false), 119);
        DUE.is("255 by excess", x.encode(255, true), 904);
    }

    /** Terms: "SIGN k (0 .. 7) is UNEVEN number 4 + k"; 2: "or 256 and k for SIGN k" */
    private static void signsAreUneven() {
        StoragePath x = new StoragePath();
        DUE.is("sign 0 by lack", x.encode(256, false), 123);
        DUE.is("sign 0 by excess", x.encode(256, true), 900);
        DUE.is("sign 7 by lack", x.encode(263, false), 189);
        DUE.is("sign 7 by excess", x.encode(263, true), 834);
    }

    /** 2: "a byte 0 .. 255 ..": OUTSIDE below. */
    private static void encodeTooSmall() {
        StoragePath x = new StoragePath();
        for (int value : new int[] {-1, -2, -252, -256, Integer.MIN_VALUE}) {
            DUE.is("encode(" + value + ", false)", x.encode(value, false), OUTSIDE);
            DUE.is("encode(" + value + ", true)", x.encode(value, true), OUTSIDE);
        }
    }

    /** 2: ".. or 256 and k for SIGN k": OUTSIDE above SIGN 7. */
    private static void encodeTooLarge() {
        StoragePath x = new StoragePath();
        for (int value : new int[] {264, 265, 512, 1024, Integer.MAX_VALUE}) {
            DUE.is("encode(" + value + ", false)", x.encode(value, false), OUTSIDE);
            DUE.is("encode(" + value + ", true)", x.encode(value, true), OUTSIDE);
        }
    }

    /** 3: "What a WORD .. tells, by EXCESS or not: a byte, 256 and k" */
    private static void decodeTellsEachValueBack() {
        for (boolean excess : new boolean[] {false, true}) {
            StoragePath x = new StoragePath();
            StoragePath y = new StoragePath();
            for (int v = 0; v < 264; v++) {
                DUE.is("decode of " + v, x.decode(y.encode(v, excess), excess), v);
            }
        }
    }

    /** 3: "NONE: a FINDING (1 ..)"; 1 is "neither EVEN nor one of the 24 UNEVEN ones" */
    private static void decodeFindsWord() {
        StoragePath x = new StoragePath();
        int[] words = {0, 1, 15, 127, 190, 207, 833, 816, 896, 1008, 1022, 1023};
        for (int word : words) {
            DUE.is("decode(" + word + ", false)", x.decode(word, false), NONE);
            DUE.is("decode(" + word + ", true)", x.decode(word, true), NONE);
        }
    }

    /** 3: "NONE: a FINDING (.. 2)"; 2 is "UNEVEN, but not by DISPARITY" */
    private static void decodeFindsTurn() {
        StoragePath x = new StoragePath();
        for (int v = 252; v < 264; v++) {
            DUE.is("decode of " + v + " by lack, as excess", x.decode(x.encode(v, false), true), NONE);
            DUE.is("decode of " + v + " by excess, as lack", x.decode(x.encode(v, true), false), NONE);
        }
    }

    /** 3: "a WORD (0 .. 1023)": OUTSIDE below; 0 itself is a word. */
    private static void decodeTooSmall() {
        StoragePath x = new StoragePath();
        for (int word : new int[] {-1, -31, -1024, Integer.MIN_VALUE}) {
            DUE.is("decode(" + word + ", false)", x.decode(word, false), OUTSIDE);
            DUE.is("decode(" + word + ", true)", x.decode(word, true), OUTSIDE);
        }
        DUE.is("decode(0, false)", x.decode(0, false), NONE);
        DUE.is("decode(0, true)", x.decode(0, true), NONE);
    }

    /** 3: "a WORD (0 .. 1023)": OUTSIDE above, also where the ten lowest bits are a word; 1023 itself is one. */
    private static void decodeTooLarge() {
        StoragePath x = new StoragePath();
        for (int word : new int[] {1024, 1024 + 31, 2048, Integer.MAX_VALUE}) {
            DUE.is("decode(" + word + ", false)", x.decode(word, false), OUTSIDE);
            DUE.is("decode(" + word + ", true)", x.decode(word, true), OUTSIDE);
        }
        DUE.is("decode(1023, false)", x.decode(1023, false), NONE);
        DUE.is("decode(1023, true)", x.decode(1023, true), NONE);
    }
}
