import java.util.Random;

/** Long runs of mixed calls, each answer compared with PlainPath's; promises 1 to 23 together. */
public final class ModelTest {
    /** An object is used for 512 calls: some 420 of a mixed run, then some 80 that tell all. */
    private static final int RUNS = 1500, MIXED_CALLS = 410;
    private static final int[] WILD = {Integer.MIN_VALUE, -1000, -1, 0, 1, 8, 31, 32, 64, 256, 1024, 1000001, Integer.MAX_VALUE};

    private final Due due = new Due();
    private Random random;
    private StoragePath real;
    private PlainPath plain;
    private int calls;

    public static void main(String[] args) {
        ModelTest test = new ModelTest();
        for (int run = 0; run < RUNS; run++) {
            test.run(run);
        }
        test.due.end();
    }

    private void run(int seed) {
        random = new Random(seed);
        real = new StoragePath();
        plain = new PlainPath();
        calls = 0;
        for (int turn = 0; turn < MIXED_CALLS && calls < MIXED_CALLS; turn++) {
            oneCall("seed " + seed + " call " + calls + ": ");
        }
        tellAll("seed " + seed + " at the end: ");
        due.holds("seed " + seed + ": at most 512 calls", calls <= 512);
    }

    private void same(String call, int got, int want) {
        calls++;
        due.is(call, got, want);
    }

    private int upTo(int bound) {
        return random.nextInt(20) == 0 ? WILD[random.nextInt(WILD.length)] : random.nextInt(bound);
    }

    private void oneCall(String at) {
        int choice = random.nextInt(100);
        if (choice < 10) {
            codeCall(at);
        } else if (choice < 22) {
            frameCall(at);
        } else if (choice < 34) {
            planCall(at);
        } else if (choice < 85) {
            commandCall(at);
        } else {
            toldCall(at);
        }
    }

    private void codeCall(String at) {
        boolean excess = random.nextBoolean();
        int value = upTo(264);
        int word = upTo(1024);
        same(at + "encode " + value, real.encode(value, excess), plain.encode(value, excess));
        same(at + "decode " + word, real.decode(word, excess), plain.decode(word, excess));
    }

    private void frameCall(String at) {
        int many = random.nextInt(14);
        for (int i = 0; i < many; i++) {
            int b = upTo(256);
            same(at + "draft " + b, real.draft(b), plain.draft(b));
        }
        same(at + "check", real.check(), plain.check());
        same(at + "test", real.test(), plain.test());
    }

    /** Faults mostly hit the frames that come next, many of them four in a row. */
    private void planCall(String at) {
        int next = plain.count(0) + random.nextInt(6);
        int style = random.nextInt(8);
        if (style == 0) {
            same(at + "calm", real.calm(), plain.calm());
        } else if (style == 1) {
            int f = upTo(1000001);
            int b = upTo(1000001);
            same(at + "plan " + f + " " + b, real.plan(f, b), plain.plan(f, b));
        } else {
            int frames = style < 4 ? 4 : 1;
            for (int i = 0; i < frames; i++) {
                int b = random.nextInt(200);
                same(at + "plan", real.plan(next + i, b), plain.plan(next + i, b));
            }
        }
    }

    private void commandCall(String at) {
        int tag = upTo(8);
        int sector = random.nextInt(4) == 0 ? upTo(64) : upTo(12);
        int many = upTo(5);
        switch (random.nextInt(16)) {
            case 0, 1 -> same(at + "read", real.read(tag, sector, many), plain.read(tag, sector, many));
            case 2, 3, 4, 5 -> writeCall(at, tag, sector, many);
            case 6 -> same(at + "flush", real.flush(tag), plain.flush(tag));
            case 7, 8, 9, 10 -> same(at + "step", real.step(), plain.step());
            case 11 -> same(at + "drain", real.drain(), plain.drain());
            case 12, 13 -> resultsOfAll(at);
            case 14 -> wayCall(at);
            default -> cutCall(at);
        }
    }

    private void writeCall(String at, int tag, int sector, int many) {
        boolean through = random.nextInt(3) == 0;
        int a = random.nextInt();
        same(at + "write", real.write(tag, sector, many, through, a, a + 1, ~a, 5),
            plain.write(tag, sector, many, through, a, a + 1, ~a, 5));
    }

    private void resultsOfAll(String at) {
        for (int i = 0; i < 6; i++) {
            int tag = upTo(8);
            same(at + "result " + tag, real.result(tag), plain.result(tag));
            int k = upTo(5);
            same(at + "got " + k, real.got(k), plain.got(k));
        }
    }

    private void wayCall(String at) {
        int way = upTo(4);
        same(at + "way " + way, real.way(way), plain.way(way));
    }

    private void cutCall(String at) {
        if (random.nextInt(3) == 0) {
            same(at + "cut", real.cut(), plain.cut());
        }
    }

    private void toldCall(String at) {
        int i = upTo(180);
        int k = upTo(18);
        int s = upTo(33);
        boolean cached = random.nextBoolean();
        same(at + "wire " + i, real.wire(i), plain.wire(i));
        same(at + "finding " + k, real.finding(k), plain.finding(k));
        same(at + "sector " + s, real.sector(s, cached), plain.sector(s, cached));
        same(at + "cached " + k, real.cached(k), plain.cached(k));
        same(at + "state " + k, real.state(k), plain.state(k));
        same(at + "count " + k, real.count(k), plain.count(k));
    }

    private void tellAll(String at) {
        for (int what = -1; what < 11; what++) {
            same(at + "count " + what, real.count(what), plain.count(what));
        }
        for (int s = 0; s < 32; s++) {
            same(at + "sector " + s, real.sector(s, true), plain.sector(s, true));
        }
        for (int k = -1; k < 17; k++) {
            same(at + "finding " + k, real.finding(k), plain.finding(k));
        }
        for (int tag = -1; tag < 9; tag++) {
            same(at + "state " + tag, real.state(tag), plain.state(tag));
        }
        for (int i = -1; i < 7; i++) {
            same(at + "cached " + i, real.cached(i), plain.cached(i));
        }
    }
}
