import java.util.ArrayList;
import java.util.List;

/** Promises 4 (draft), 5 (check), 6 (test), 7 (wire), 8 (finding), 9 (plan), 10 (calm). */
public final class FrameTest {
    private static final Due DUE = new Due();
    /** The first byte of the scramble: by it, this byte goes as even word 0, 0000011111. */
    private static final int FIRST = 177;

    public static void main(String[] args) {
        draftFills();
        checkOfDraft();
        testSendsOnce();
        wireHasTheBits();
        disparityBeginsAnewWithEachFrame();
        findingsOfEachKind();
        theFirstFindingCounts();
        findingsFromTheEnd();
        planIsFilled();
        faultsTurnBits();
        calmEmptiesThePlan();
        DUE.end();
    }

    private static void draftFills() {
        StoragePath x = new StoragePath();
        DUE.is("draft(-1)", x.draft(-1), StoragePath.OUTSIDE);
        DUE.is("draft(256)", x.draft(256), StoragePath.OUTSIDE);
        for (int i = 1; i <= 12; i++) {
            DUE.is("draft no. " + i, x.draft(i % 2 == 0 ? 0 : 255), i);
        }
        DUE.is("draft no. 13", x.draft(0), StoragePath.FULL);
        DUE.is("draft outside ahead of full", x.draft(300), StoragePath.OUTSIDE);
        DUE.is("the draft stays", x.count(8), 12);
        DUE.is("test of 12 bytes", x.test(), 0);
        DUE.is("bits of 12 bytes", x.count(9), 180);
        DUE.is("draft anew", x.draft(3), 1);
    }

    private static void checkOfDraft() {
        StoragePath x = new StoragePath();
        DUE.is("check of no byte", x.check(), 1378996274);
        x.draft(0);
        DUE.is("check of 0", x.check(), 1086693993);
        DUE.is("check leaves the draft", x.count(8), 1);
        List<Integer> bytes = new ArrayList<>(List.of(0));
        for (int b : new int[] {255, 128, 1, 39, 161, 70, 254, 127, 2, 3, 77}) {
            x.draft(b);
            bytes.add(b);
            DUE.is("check of " + bytes, x.check(), PlainPath.checkOf(bytes));
        }
        DUE.is("check sends nothing", x.count(0), 0);
    }

    private static void testSendsOnce() {
        StoragePath x = new StoragePath();
        DUE.is("test of no byte", x.test(), StoragePath.NOT);
        DUE.is("which sends nothing", x.count(0), 0);
        x.plan(0, 3);
        x.draft(9);
        DUE.is("test with a fault", x.test(), 3);
        DUE.is("sent once", x.count(0), 1);
        DUE.is("with a finding", x.count(1), 1);
        DUE.is("no frame has failed", x.count(2), 0);
        DUE.is("the draft is empty", x.count(8), 0);
        DUE.is("test again", x.test(), StoragePath.NOT);
        DUE.is("check of the empty draft", x.check(), 1378996274);
    }

    private static void wireHasTheBits() {
        StoragePath x = new StoragePath();
        DUE.is("wire(0) ahead of all frames", x.wire(0), StoragePath.UNKNOWN);
        List<Integer> payload = List.of(0, 255, 17, 4);
        payload.forEach(x::draft);
        DUE.is("test", x.test(), 0);
        bitsAre(x, PlainPath.frameBits(payload));
        DUE.is("wire(-1)", x.wire(-1), StoragePath.UNKNOWN);
        DUE.is("wire(100)", x.wire(100), StoragePath.UNKNOWN);
        DUE.is("wire of a great number", x.wire(Integer.MAX_VALUE), StoragePath.UNKNOWN);
        // the opening sign by lack, then 0 as the first even word
        StoragePath y = new StoragePath();
        y.draft(FIRST);
        y.test();
        String head = "0001111011" + "0000011111";
        for (int i = 0; i < head.length(); i++) {
            DUE.is("bit " + i, y.wire(i), head.charAt(i) - '0');
        }
        y.read(0, 0, 1);
        y.step();
        bitsAre(y, PlainPath.frameBits(List.of(161, 0, 0)));
    }

    private static void bitsAre(StoragePath x, String bits) {
        DUE.is("bits", x.count(9), bits.length());
        for (int i = 0; i < bits.length(); i++) {
            DUE.is("wire(" + i + ")", x.wire(i), bits.charAt(i) - '0');
        }
    }

    private static void disparityBeginsAnewWithEachFrame() {
        StoragePath x = new StoragePath();
        x.draft(FIRST ^ 252);
        DUE.is("a frame with an uneven byte", x.test(), 0);
        bitsAre(x, PlainPath.frameBits(List.of(FIRST ^ 252)));
        for (int i = 0; i < 10; i++) {
            DUE.is("uneven 0 by excess", x.wire(10 + i), "1111000000".charAt(i) - '0');
        }
        x.draft(9);
        DUE.is("the frame behind it", x.test(), 0);
        DUE.is("its opening sign is by lack", x.wire(0), 0);
        bitsAre(x, PlainPath.frameBits(List.of(9)));
    }

    private static int findingWith(int payload, int... turnedBits) {
        StoragePath x = new StoragePath();
        x.draft(payload);
        for (int b : turnedBits) {
            x.plan(0, b);
        }
        return x.test();
    }

    private static void findingsOfEachKind() {
        DUE.is("none", findingWith(FIRST), 0);
        DUE.is("WORD: seven ones at first", findingWith(FIRST, 0), 1);
        DUE.is("WORD: three ones", findingWith(FIRST, 19, 18), 1);
        // 0000011111 becomes 0000111111: uneven 0 by lack, where excess is due
        DUE.is("TURN: by lack, not by excess", findingWith(FIRST, 14), 2);
        // 1111100000 becomes 1111000000: a byte by excess; the closing sign then comes by excess again
        DUE.is("TURN: as the receiver has it", findingWith(FIRST ^ 251, 14), 2);
        DUE.is("SIGN: the first is an even word", findingWith(FIRST, 3), 3);
        DUE.is("SIGN: the first is another sign by lack", findingWith(FIRST, 7, 8), 3);
        DUE.is("SIGN: the last is an even word", findingWith(FIRST, 65), 3);
        DUE.is("SIGN: the last is another sign", findingWith(FIRST, 67, 68), 3);
        DUE.is("SIGN: one inside", findingWith(FIRST ^ evenNumber("1110000101"), 19), 3);
        DUE.is("CHECK: another even word", findingWith(FIRST, 14, 15), 4);
        DUE.is("CHECK: in the check itself", findingWith(FIRST, swapInLastByte()), 4);
    }

    private static int evenNumber(String bits) {
        return PlainPath.EVEN.indexOf(bits);
    }

    /** Two bits of the last byte's word, a 0 and a 1: turned, the word stays even. */
    private static int[] swapInLastByte() {
        String word = PlainPath.frameBits(List.of(FIRST)).substring(50, 60);
        return new int[] {50 + word.indexOf('0'), 50 + word.indexOf('1')};
    }

    private static void theFirstFindingCounts() {
        DUE.is("SIGN ahead of WORD", findingWith(FIRST, 3, 10, 11), 3);
        DUE.is("WORD ahead of SIGN at the end", findingWith(FIRST, 10, 11, 65), 1);
        DUE.is("TURN ahead of SIGN in one word", findingWith(FIRST, 0, 1, 2, 3, 4, 5, 6, 7, 8, 9), 2);
        DUE.is("CHECK only behind the last word", findingWith(FIRST, 14, 15, 65), 3);
        for (int bit = 0; bit < 70; bit++) {
            for (int other = bit + 1; other < 70; other += 7) {
                StringBuilder bits = new StringBuilder(PlainPath.frameBits(List.of(36)));
                bits.setCharAt(bit, (char) ('0' + '1' - bits.charAt(bit)));
                bits.setCharAt(other, (char) ('0' + '1' - bits.charAt(other)));
                DUE.is("bits " + bit + ", " + other, findingWith(36, bit, other), PlainPath.findingOf(bits.toString()));
            }
        }
    }

    private static void findingsFromTheEnd() {
        StoragePath x = new StoragePath();
        DUE.is("finding(0) ahead of all", x.finding(0), StoragePath.UNKNOWN);
        int[] turned = {0, 14, 3, -1};
        for (int i = 0; i < 18; i++) {
            x.draft(FIRST);
            if (turned[i % 4] >= 0) {
                x.plan(i, turned[i % 4]);
            }
            DUE.is("test no. " + i, x.test(), (i + 1) % 4);
            DUE.is("finding(0)", x.finding(0), (i + 1) % 4);
            DUE.is("finding of the first", x.finding(i), i < 16 ? 1 : StoragePath.UNKNOWN);
            DUE.is("finding ahead of the first", x.finding(i + 1), StoragePath.UNKNOWN);
        }
        for (int k = 0; k < 16; k++) {
            DUE.is("finding(" + k + ")", x.finding(k), (18 - k) % 4);
        }
        DUE.is("finding(16)", x.finding(16), StoragePath.UNKNOWN);
        DUE.is("finding(-1)", x.finding(-1), StoragePath.UNKNOWN);
        DUE.is("finding of the least", x.finding(Integer.MIN_VALUE), StoragePath.UNKNOWN);
    }

    private static void planIsFilled() {
        StoragePath x = new StoragePath();
        int[][] outside = {{-1, 0}, {0, -1}, {1000001, 0}, {0, 1000001}, {Integer.MIN_VALUE, 0}, {0, Integer.MAX_VALUE}};
        for (int[] p : outside) {
            DUE.is("plan(" + p[0] + ", " + p[1] + ")", x.plan(p[0], p[1]), StoragePath.OUTSIDE);
        }
        for (int i = 1; i <= 30; i++) {
            DUE.is("plan no. " + i, x.plan(1000000, 1000000), i);
        }
        DUE.is("plan no. 31", x.plan(0, 0), StoragePath.FULL);
        DUE.is("outside ahead of full", x.plan(-1, 0), StoragePath.OUTSIDE);
        DUE.is("faults", x.count(3), 30);
    }

    private static void faultsTurnBits() {
        StoragePath x = new StoragePath();
        x.plan(0, 12);
        x.plan(0, 12 + 70);
        x.draft(FIRST);
        DUE.is("turned twice: as it was", x.test(), 0);
        bitsAre(x, PlainPath.frameBits(List.of(FIRST)));
        x.plan(1, 1000000);
        x.draft(FIRST);
        DUE.is("a bit by modulo 70", x.test(), findingWith(FIRST, 1000000 % 70));
        DUE.is("it is turned", x.wire(1000000 % 70),
            1 - (PlainPath.frameBits(List.of(FIRST)).charAt(1000000 % 70) - '0'));
        x.plan(0, 0);
        x.plan(1, 0);
        x.plan(3, 0);
        x.draft(FIRST);
        DUE.is("faults of frames sent already, or later", x.test(), 0);
        x.draft(FIRST);
        DUE.is("the later one", x.test(), 1);
        DUE.is("faults stay in the plan", x.count(3), 6);
    }

    private static void calmEmptiesThePlan() {
        StoragePath x = new StoragePath();
        DUE.is("calm of no fault", x.calm(), 0);
        x.plan(0, 0);
        x.plan(0, 1);
        DUE.is("calm of two", x.calm(), 2);
        DUE.is("calm again", x.calm(), 0);
        DUE.is("faults", x.count(3), 0);
        x.draft(FIRST);
        DUE.is("no fault is left", x.test(), 0);
        DUE.is("plan anew", x.plan(5, 5), 1);
    }
}
