/** All that a citadel tells of itself: at most 270 calls, with 8 dolls. */
final class Told {
    private Told() {
    }

    /** What count() tells, what doll() and joint() tell of each doll, and the checksum, for the poses. */
    static long[] of(DollCitadel x) {
        int dolls = x.count(1);
        long[] row = new long[13 + dolls * 32 + 1];
        int at = 0;
        for (int what = 0; what < 13; what++) {
            row[at++] = x.count(what);
        }
        for (int doll = 0; doll < dolls; doll++) {
            for (int what = 0; what < 8; what++) {
                row[at++] = x.doll(doll, what);
            }
            for (int k = 0; k < 24; k++) {
                row[at++] = x.joint(doll, k / 4, k % 4);
            }
        }
        row[at] = x.digest();
        return row;
    }
}
