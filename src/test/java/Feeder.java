/** Puts bytes on a tape by feed and end, as every test does it. */
final class Feeder {
    private Feeder() { }

    interface Tape {
        int feed(int a, int b, int c, int d, int e);

        int end(int n);
    }

    static void put(Tape tape, int already, int... bytes) {
        for (int i = 0; i < bytes.length; i += 20) {
            int[] n = new int[5];
            for (int k = 0; k < 20; k++) {
                int sign = i + k < bytes.length ? bytes[i + k] & 255 : ' ';
                n[k / 4] = n[k / 4] << 8 | sign;
            }
            tape.feed(n[0], n[1], n[2], n[3], n[4]);
        }
        tape.end(already + bytes.length);
    }

    static int[] bytesOf(String text) {
        return text.chars().toArray();
    }
}
