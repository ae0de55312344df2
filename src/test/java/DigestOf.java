/** Hashes that are taken from the answers of the other calls. */
final class DigestOf {
    private DigestOf() {
    }

    /** The digest as promise 29 lists it. */
    static long of(DroopBoard x, boolean snapshot, String buffer) {
        long hash = ofState(x, 31 * ofCounts(x) + x.count(11));
        hash = 31 * hash + (snapshot ? 1 : 0);
        hash = 31 * hash + buffer.length();
        for (int i = 0; i < buffer.length(); i++) {
            hash = 31 * hash + buffer.charAt(i);
        }
        return hash;
    }

    /** All that undo() restores, without how many states are saved. */
    static long ofState(DroopBoard x) {
        return ofState(x, ofCounts(x));
    }

    private static long ofCounts(DroopBoard x) {
        long hash = 3701;
        for (int what = 0; what <= 10; what++) {
            hash = 31 * hash + x.count(what);
        }
        return hash;
    }

    private static long ofState(DroopBoard x, long before) {
        long hash = before;
        for (int setting = 0; setting <= 3; setting++) {
            hash = 31 * hash + x.setting(setting);
        }
        for (int set = 0; set <= 2; set++) {
            for (int what = 0; what <= 12; what++) {
                hash = 31 * hash + x.diesel(set, what);
            }
            for (int what = 0; what <= 2; what++) {
                hash = 31 * hash + x.ifSpeed(set, 5050, what);
            }
            hash = 31 * hash + x.closeIn(set);
            hash = 31 * hash + x.fairSpeed(set);
        }
        for (int feeder = 0; feeder <= 3; feeder++) {
            for (int what = 0; what <= 2; what++) {
                hash = 31 * hash + x.line(feeder, what);
            }
        }
        hash = 31 * hash + x.nextTrip();
        hash = 31 * hash + Double.doubleToLongBits(x.loadShare());
        hash = 31 * hash + Float.floatToIntBits(x.meanPower());
        return hash;
    }
}
