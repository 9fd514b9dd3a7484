/** The checksum of promise 28, computed from outside by the other calls. */
final class DigestByCalls {
    private DigestByCalls() {
    }

    static long of(WarnWave x) {
        long d = 4814;
        for (int what = 0; what < 12; what++) {
            d = d * 31 + x.many(what);
        }
        int groups = x.many(2);
        int warnings = x.many(6);
        for (int g = 0; g < groups; g++) {
            for (int what = 0; what < 9; what++) {
                d = d * 31 + x.ofGroup(g, what);
            }
            d = d * 31 + x.safeIn(g, 9);
            for (int w = 0; w < warnings; w++) {
                for (int what = 0; what < 5; what++) {
                    d = d * 31 + x.heard(g, w, what);
                }
                d = d * 31 + x.chain(g, w);
            }
        }
        for (int w = 0; w < warnings; w++) {
            for (int what = 0; what < 9; what++) {
                d = d * 31 + x.ofWarning(w, what);
            }
        }
        for (int cell = 0; cell < 16; cell++) {
            d = d * 31 + x.inForce(cell);
        }
        for (int s = 0; hasShelter(x, s); s++) {
            d = d * 31 + x.roomIn(s);
        }
        return d * 31 + x.sirenWould(5, 1, 6);
    }

    private static boolean hasShelter(WarnWave x, int shelter) {
        try {
            x.roomIn(shelter);
            return true;
        } catch (IndexOutOfBoundsException e) {
            return false;
        }
    }
}
