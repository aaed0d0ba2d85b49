/** Short ways to the places from which edges are asked. */
final class Calls {
    private Calls() {
    }

    static void draftAll(StoragePath x, int... bytes) {
        for (int b : bytes) {
            x.draft(b);
        }
    }

    /** Sends a frame of one byte by itself: the finding. */
    static int sendByte(StoragePath x, int b) {
        x.draft(b);
        return x.test();
    }

    /** A new object that has sent one frame of that byte, with these bits of it turned. */
    static StoragePath sentWith(int b, int... turnedBits) {
        StoragePath x = new StoragePath();
        for (int bit : turnedBits) {
            x.plan(0, bit);
        }
        sendByte(x, b);
        return x;
    }

    /** Bit 0 of so many frames from that one on is turned: each of them has a finding. */
    static void spoil(StoragePath x, int frame, int frames) {
        for (int i = 0; i < frames; i++) {
            x.plan(frame + i, 0);
        }
    }

    /** Writes one sector into the cache, by tag 0, which is free before and after. */
    static void cacheOne(StoragePath x, int sector, int number) {
        x.write(0, sector, 1, false, number, 0, 0, 0);
        x.step();
        x.result(0);
    }

    /** Six sectors from that one on come into the cache, with the numbers 1 to 6. */
    static void cacheSix(StoragePath x, int sector) {
        x.write(0, sector, 4, false, 1, 2, 3, 4);
        x.write(1, sector + 4, 2, false, 5, 6, 0, 0);
        x.drain();
        x.result(0);
        x.result(1);
    }

    static String bitsOf(int... words) {
        StringBuilder bits = new StringBuilder();
        for (int word : words) {
            bits.append(PlainPath.binary(word, 10));
        }
        return bits.toString();
    }

    /** What the wire tells of the frame that was sent last. */
    static String wireOf(StoragePath x) {
        StringBuilder bits = new StringBuilder();
        int many = x.count(9);
        for (int i = 0; i < many; i++) {
            bits.append(x.wire(i));
        }
        return bits.toString();
    }

    static String turnedAt(String bits, int place) {
        char other = bits.charAt(place) == '0' ? '1' : '0';
        return bits.substring(0, place) + other + bits.substring(place + 1);
    }

    /** The sectors of the cache, in their order. */
    static String cacheOf(StoragePath x) {
        StringBuilder places = new StringBuilder();
        int many = x.count(4);
        for (int i = 0; i < many; i++) {
            places.append(i == 0 ? "" : " ").append(x.cached(i));
        }
        return places.toString();
    }
}
