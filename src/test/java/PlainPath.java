import java.util.ArrayList;
import java.util.Comparator;
import java.util.Iterator;
import java.util.LinkedHashMap;
import java.util.List;
import java.util.Map;

/** The document once more, written plainly and with the whole library: what the class is compared with. */
final class PlainPath {
    static final int NONE = -1, UNKNOWN = -2, OUTSIDE = -3, NOT = -4, FULL = -5;
    static final List<String> EVEN = wordsWith(5, 252);
    static final List<String> LACK = wordsWith(6, 12);
    static final List<String> EXCESS = LACK.stream().map(PlainPath::turned).toList();

    private static final class Order {
        int tag, kind, sector, many, result = -1;
        List<Integer> numbers = new ArrayList<>();
    }

    final int[] disk = new int[32];
    final LinkedHashMap<Integer, Integer> cache = new LinkedHashMap<>();
    final List<int[]> faults = new ArrayList<>();
    final List<Integer> draft = new ArrayList<>();
    final List<Integer> findings = new ArrayList<>();
    final List<Order> queue = new ArrayList<>();
    final Map<Integer, Order> ended = new LinkedHashMap<>();
    List<Integer> told = List.of();
    String wire = "";
    int failed, way, last;

    static List<String> wordsWith(int ones, int atMost) {
        List<String> all = new ArrayList<>();
        for (int w = 0; w < 1024 && all.size() < atMost; w++) {
            String bits = binary(w, 10);
            if (bits.chars().filter(c -> c == '1').count() == ones) {
                all.add(bits);
            }
        }
        return all;
    }

    static String turned(String bits) {
        return bits.replace('0', 'x').replace('1', '0').replace('x', '1');
    }

    static String binary(long n, int length) {
        StringBuilder b = new StringBuilder();
        for (int i = length - 1; i >= 0; i--) {
            b.append((n >> i & 1) == 1 ? '1' : '0');
        }
        return b.toString();
    }

    int encode(int value, boolean excess) {
        if (value < 0 || value > 263) {
            return OUTSIDE;
        }
        return Integer.parseInt(word(value, excess), 2);
    }

    static String word(int value, boolean excess) {
        return value < 252 ? EVEN.get(value) : (excess ? EXCESS : LACK).get(value - 252);
    }

    int decode(int word, boolean excess) {
        if (word < 0 || word > 1023) {
            return OUTSIDE;
        }
        String bits = binary(word, 10);
        int even = EVEN.indexOf(bits);
        int uneven = (excess ? EXCESS : LACK).indexOf(bits);
        return even >= 0 ? even : uneven >= 0 ? 252 + uneven : NONE;
    }

    int draft(int b) {
        if (b < 0 || b > 255) {
            return OUTSIDE;
        }
        if (draft.size() == 12) {
            return FULL;
        }
        draft.add(b);
        return draft.size();
    }

    int check() {
        return checkOf(draft);
    }

    /** The remainder of a long division, bit by bit over a text of bits. */
    static int checkOf(List<Integer> bytes) {
        long c = 1378996274L;
        StringBuilder bits = new StringBuilder();
        bytes.forEach(b -> bits.append(binary(b, 8)));
        for (char bit : bits.toString().toCharArray()) {
            boolean x = (c >= (1L << 31)) != (bit == '1');
            c = c * 2 % (1L << 32);
            c = x ? c ^ 79764919L : c;
        }
        return (int) c;
    }

    static String scrambleBits(int bytes) {
        StringBuilder bits = new StringBuilder();
        int r = 65535;
        while (bits.length() < bytes * 8) {
            boolean top = r >= 32768;
            bits.append(top ? '1' : '0');
            r = r * 2 % 65536;
            r = top ? r ^ 40977 : r;
        }
        return bits.toString();
    }

    static int scrambleByte(int i) {
        return Integer.parseInt(scrambleBits(i + 1).substring(i * 8), 2);
    }

    static List<Integer> bytesOf(int number) {
        return List.of(number >>> 24, number >>> 16 & 255, number >>> 8 & 255, number & 255);
    }

    /** The bits of a frame without faults. */
    static String frameBits(List<Integer> payload) {
        List<Integer> body = new ArrayList<>(payload);
        body.addAll(bytesOf(checkOf(payload)));
        List<Integer> values = new ArrayList<>();
        values.add(256);
        for (int i = 0; i < body.size(); i++) {
            values.add(body.get(i) ^ scrambleByte(i));
        }
        values.add(257);
        StringBuilder bits = new StringBuilder();
        int uneven = 0;
        for (int v : values) {
            bits.append(word(v, uneven % 2 == 1));
            uneven += v >= 252 ? 1 : 0;
        }
        return bits.toString();
    }

    static int findingOf(String bits) {
        int words = bits.length() / 10;
        boolean excess = false;
        List<Integer> body = new ArrayList<>();
        for (int w = 0; w < words; w++) {
            String word = bits.substring(w * 10, w * 10 + 10);
            boolean even = EVEN.contains(word), lack = LACK.contains(word), over = EXCESS.contains(word);
            if (!even && !lack && !over) {
                return 1;
            }
            if (excess ? lack : over) {
                return 2;
            }
            int value = even ? EVEN.indexOf(word) : 252 + (lack ? LACK : EXCESS).indexOf(word);
            if (w == 0 ? value != 256 : w == words - 1 ? value != 257 : value > 255) {
                return 3;
            }
            excess ^= !even;
            if (w > 0 && w < words - 1) {
                body.add(value ^ scrambleByte(w - 1));
            }
        }
        int n = body.size() - 4;
        return body.subList(n, n + 4).equals(bytesOf(checkOf(body.subList(0, n)))) ? 0 : 4;
    }

    private int sendOnce(List<Integer> payload) {
        StringBuilder bits = new StringBuilder(frameBits(payload));
        for (int[] fault : faults) {
            if (fault[0] == findings.size()) {
                int at = fault[1] % bits.length();
                bits.setCharAt(at, bits.charAt(at) == '1' ? '0' : '1');
            }
        }
        wire = bits.toString();
        findings.add(findingOf(wire));
        return findings.get(findings.size() - 1);
    }

    private boolean arrives(List<Integer> payload) {
        for (int i = 0; i < 4; i++) {
            if (sendOnce(payload) == 0) {
                return true;
            }
        }
        failed++;
        return false;
    }

    int test() {
        if (draft.isEmpty()) {
            return NOT;
        }
        int found = sendOnce(draft);
        draft.clear();
        return found;
    }

    int wire(int i) {
        return i < 0 || i >= wire.length() ? UNKNOWN : wire.charAt(i) - '0';
    }

    int finding(int k) {
        return k < 0 || k > 15 || k >= findings.size() ? UNKNOWN : findings.get(findings.size() - 1 - k);
    }

    int plan(int f, int b) {
        if (f < 0 || f > 1000000 || b < 0 || b > 1000000) {
            return OUTSIDE;
        }
        if (faults.size() == 30) {
            return FULL;
        }
        faults.add(new int[] {f, b});
        return faults.size();
    }

    int calm() {
        int had = faults.size();
        faults.clear();
        return had;
    }

    private int issue(int tag, int kind, int sector, int many, int... numbers) {
        if (tag < 0 || tag > 7) {
            return UNKNOWN;
        }
        if (kind != 3 && (sector < 0 || sector > 63 || many < 1 || many > 4)) {
            return OUTSIDE;
        }
        if (state(tag) != 0) {
            return NOT;
        }
        Order o = new Order();
        o.tag = tag;
        o.kind = kind;
        o.sector = sector;
        o.many = many;
        for (int i = 0; i < numbers.length && i < many; i++) {
            o.numbers.add(numbers[i]);
        }
        queue.add(o);
        return 1;
    }

    int read(int tag, int sector, int many) {
        return issue(tag, 0, sector, many);
    }

    int write(int tag, int sector, int many, boolean through, int a, int b, int c, int d) {
        return issue(tag, through ? 2 : 1, sector, many, a, b, c, d);
    }

    int flush(int tag) {
        return issue(tag, 3, 0, 0);
    }

    private Order choose() {
        if (way == 0) {
            return queue.get(0);
        }
        if (way == 2) {
            return queue.stream().max(Comparator.comparing(o -> o.tag)).get();
        }
        Comparator<Order> rising = Comparator.<Order>comparingInt(o -> o.sector).thenComparingInt(o -> o.tag);
        return queue.stream().filter(o -> o.sector >= last).min(rising)
            .orElseGet(() -> queue.stream().min(rising).get());
    }

    int step() {
        if (queue.isEmpty()) {
            return NOT;
        }
        Order o = choose();
        queue.remove(o);
        last = o.kind == 3 ? 0 : o.sector + o.many - 1;
        o.result = carryOut(o);
        ended.put(o.tag, o);
        return o.tag;
    }

    private int carryOut(Order o) {
        if (!arrives(List.of(39, o.kind, o.tag, o.sector, o.many))) {
            return 1;
        }
        if (last > 31) {
            return arrives(List.of(161, o.tag, 2)) ? 2 : 1;
        }
        for (int s = o.sector; s < o.sector + o.many; s++) {
            if (o.kind == 0) {
                o.numbers.add(sector(s, true));
            }
            int number = o.numbers.get(s - o.sector);
            List<Integer> payload = new ArrayList<>(List.of(70, o.tag));
            payload.addAll(bytesOf(number));
            if (!arrives(payload)) {
                return 1;
            }
            if (o.kind == 1) {
                written(s, number);
            } else if (o.kind == 2) {
                cache.remove(s);
                disk[s] = number;
            }
        }
        while (o.kind == 3 && !cache.isEmpty()) {
            layFirst();
        }
        return arrives(List.of(161, o.tag, 0)) ? 0 : 1;
    }

    private void written(int s, int number) {
        if (!cache.containsKey(s) && cache.size() == 6) {
            layFirst();
        }
        cache.put(s, number);
    }

    private void layFirst() {
        Iterator<Map.Entry<Integer, Integer>> it = cache.entrySet().iterator();
        Map.Entry<Integer, Integer> first = it.next();
        disk[first.getKey()] = first.getValue();
        it.remove();
    }

    int drain() {
        int n = 0;
        while (step() != NOT) {
            n++;
        }
        return n;
    }

    int result(int tag) {
        if (tag < 0 || tag > 7) {
            return UNKNOWN;
        }
        Order o = ended.remove(tag);
        if (o == null) {
            return NOT;
        }
        if (o.kind == 0 && o.result == 0) {
            told = o.numbers;
        }
        return o.result;
    }

    int got(int i) {
        return i >= 0 && i < told.size() ? told.get(i) : 0;
    }

    int way(int newWay) {
        if (newWay < 0 || newWay > 2) {
            return OUTSIDE;
        }
        int was = way;
        way = newWay;
        return was;
    }

    int cut() {
        int had = cache.size();
        cache.clear();
        for (Order o : queue) {
            o.result = 3;
            ended.put(o.tag, o);
        }
        queue.clear();
        return had;
    }

    int sector(int s, boolean cached) {
        return s < 0 || s > 31 ? 0 : cached && cache.containsKey(s) ? cache.get(s) : disk[s];
    }

    int cached(int i) {
        return i < 0 || i >= cache.size() ? UNKNOWN : List.copyOf(new ArrayList<>(cache.keySet())).get(i);
    }

    int state(int tag) {
        if (tag < 0 || tag > 7) {
            return UNKNOWN;
        }
        return ended.containsKey(tag) ? 2 : queue.stream().anyMatch(o -> o.tag == tag) ? 1 : 0;
    }

    int count(int what) {
        return switch (what) {
            case 0 -> findings.size();
            case 1 -> (int) findings.stream().filter(f -> f != 0).count();
            case 2 -> failed;
            case 3 -> faults.size();
            case 4 -> cache.size();
            case 5 -> queue.size();
            case 6 -> ended.size();
            case 7 -> last;
            case 8 -> draft.size();
            case 9 -> wire.length();
            default -> OUTSIDE;
        };
    }
}
