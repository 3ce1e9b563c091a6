/** RAISED, READINGS and what is compared of floats and doubles of every power, beside the machine's own numbers. */
public final class NumbersTest {
    private static final long[] LOWS = {0, 1, 0x8000000000000L, 0xfffffffffffffL, 0x5555555555555L, 0x8000000000001L};
    private static final int[] LOW_FLOATS = {0, 1, 0x400000, 0x7fffff, 0x555555};
    private static final long[] RAISES = {0, 1, -1, 3, 1000003, -16777217, 1L << 53, (1L << 53) + 1, Long.MAX_VALUE,
        Long.MIN_VALUE};
    private static int wrong = 0;

    public static void main(String[] args) {
        for (int power = 0; power < 2048; power++) {
            HatchHouse x = new HatchHouse();
            x.grid(7, 1, 2);
            for (long low : LOWS) doubles(x, (long) power << 52 | low);
        }
        for (int power = 0; power < 256; power++) {
            HatchHouse x = new HatchHouse();
            x.grid(6, 1, 2);
            for (int low : LOW_FLOATS) floats(x, power << 23 | low);
        }
        for (int power = -1074; power < 1024; power++) {
            for (int by : new int[] {0, 3, -40, -1022, -1040, -1073}) product(power, by - power);
        }
        if (wrong > 0) System.exit(1);
    }

    private static void due(String what, long bits, long got, long want) {
        if (got == want) return;
        wrong++;
        if (wrong < 20) System.out.println(what + " of 0x" + Long.toHexString(bits) + ": " + Long.toHexString(got) + ", due is "
            + Long.toHexString(want));
    }

    private static void doubles(HatchHouse x, long bits) {
        for (long signed : new long[] {bits, bits | Long.MIN_VALUE}) {
            double d = Double.longBitsToDouble(signed);
            for (long v : RAISES) {
                x.put(0, 0, signed);
                due("doubles raised by " + v, signed, x.raise(1, 0, 0, v, true), Double.doubleToLongBits(d + (double) v));
            }
            x.put(0, 0, signed);
            x.put(0, 1, signed);
            due("mean of doubles", signed, x.reading(0, 2, false), Double.doubleToLongBits((0.0 + d + d) / 2));
            x.put(0, 1, 0x4008000000000000L);
            due("fall of doubles", signed, x.reading(0, 4, true), Double.doubleToLongBits(d - 3.0));
            due("least of doubles", signed, x.reading(0, 0, false), Double.doubleToLongBits(d != d || d < 3.0 ? d : 3.0));
            due("a double below 3.0", signed, x.test(0, 0, 1, 0, false), d < 3.0 ? 1 : 0);
        }
    }

    /** WISH less 0.0, times GAIN, is the SETTING of a first MINUTE. */
    private static void product(int power, int otherPower) {
        double wish = Math.scalb(1.3333333333333333, power);
        double gain = Math.scalb(1.7142857142857142, otherPower);
        HatchHouse x = new HatchHouse();
        x.probes(0, x.row(7, 1));
        x.wish(0, 0, Double.doubleToLongBits(wish));
        x.wish(0, 1, Double.doubleToLongBits(gain));
        x.wish(0, 2, Double.doubleToLongBits(Double.POSITIVE_INFINITY));
        x.minute();
        double setting = Math.min(100.0, wish * gain);
        // What is endless times 0.0 is no number: SAFE, which is 0.0.
        due("product with " + gain, Double.doubleToLongBits(wish), x.setting(0),
            Double.doubleToLongBits(setting != setting ? 0.0 : setting));
    }

    private static void floats(HatchHouse x, int bits) {
        for (int signed : new int[] {bits, bits | Integer.MIN_VALUE}) {
            float f = Float.intBitsToFloat(signed);
            for (long v : RAISES) {
                x.put(0, 0, signed);
                due("floats raised by " + v, signed, x.raise(1, 0, 0, v, true), Float.floatToIntBits((float) ((double) f
                    + (double) v)));
            }
            x.put(0, 0, signed);
            due("mean of floats", signed, x.reading(0, 2, false), Double.doubleToLongBits((0.0 + (double) f + 0.0) / 2));
            // The other ITEM is 0.0 in all of these.
            due("least of floats", signed, x.reading(0, 0, false), Double.doubleToLongBits(f > 0 ? 0.0 : (double) f));
        }
    }
}
