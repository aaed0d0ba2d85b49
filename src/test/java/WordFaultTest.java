import java.util.ArrayList;
import java.util.List;
import java.util.Random;

/**
 * Promises 6 to 9 with faults that put other words in the place of those sent: single turned bits
 * hardly ever lead to the findings TURN and CHECK, whole words do. Compared with PlainPath.
 */
public final class WordFaultTest {
    private static final Due DUE = new Due();
    private static final int FRAMES = 6000;
    private static final Random RANDOM = new Random(9);
    private static final int[] MET = new int[5];

    public static void main(String[] args) {
        for (int i = 0; i < FRAMES; i++) {
            oneFrame("frame " + i);
        }
        for (int finding = 0; finding < MET.length; finding++) {
            DUE.holds("finding " + finding + " was met often: " + MET[finding], MET[finding] > FRAMES / 20);
        }
        DUE.end();
    }

    private static void oneFrame(String at) {
        List<Integer> payload = payload();
        String sent = PlainPath.frameBits(payload);
        String due = withOtherWords(sent);
        StoragePath x = new StoragePath();
        planTo(x, sent, due);
        payload.forEach(x::draft);
        int finding = PlainPath.findingOf(due);
        MET[finding]++;
        DUE.is(at + ": test", x.test(), finding);
        DUE.is(at + ": finding", x.finding(0), finding);
        DUE.is(at + ": with a finding", x.count(1), finding == 0 ? 0 : 1);
        DUE.same(at + ": the wire", Calls.wireOf(x), due);
    }

    /** One to twelve bytes, many of which go as uneven words. */
    private static List<Integer> payload() {
        List<Integer> payload = new ArrayList<>();
        int many = RANDOM.nextInt(3) > 0 ? 1 : 1 + RANDOM.nextInt(12);
        for (int i = 0; i < many; i++) {
            int onTheWire = RANDOM.nextInt(2) == 0 ? 252 + RANDOM.nextInt(4) : RANDOM.nextInt(256);
            payload.add(onTheWire ^ PlainPath.scrambleByte(i));
        }
        return payload;
    }

    private static String withOtherWords(String bits) {
        String changed = bits;
        int words = RANDOM.nextInt(3);
        for (int i = 0; i < words; i++) {
            int start = 10 * RANDOM.nextInt(bits.length() / 10);
            String word = changed.substring(start, start + 10);
            changed = changed.substring(0, start) + otherWord(word) + changed.substring(start + 10);
        }
        return changed;
    }

    private static String otherWord(String word) {
        switch (RANDOM.nextInt(6)) {
            case 0: return PlainPath.turned(word);
            case 1: return PlainPath.LACK.get(RANDOM.nextInt(12));
            case 2: return PlainPath.EXCESS.get(RANDOM.nextInt(12));
            case 3: return PlainPath.binary(RANDOM.nextInt(1024), 10);
            default: return PlainPath.EVEN.get(RANDOM.nextInt(252));
        }
    }

    /** Half of the faults tell their bit by a number beyond the last one. */
    private static void planTo(StoragePath x, String sent, String due) {
        int planned = 0;
        for (int i = 0; i < sent.length(); i++) {
            if (sent.charAt(i) != due.charAt(i)) {
                int beyond = RANDOM.nextBoolean() ? sent.length() * RANDOM.nextInt(5000) : 0;
                planned++;
                DUE.is("plan no. " + planned, x.plan(0, i + beyond), planned);
            }
        }
    }
}
