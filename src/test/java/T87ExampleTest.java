/**
 * The standard's own example (T.87, annex H.3): its 4 x 4 picture, told by the coder and written with the standard's
 * Golomb and run codes, must give the standard's bytes. Picture, bytes and codes were written down from memory of the
 * standard, which is not at hand here; none of them was fitted to the program's answers.
 */
public final class T87ExampleTest {
    private static final int[][] PICTURE = {
        {0, 0, 90, 74}, {68, 50, 43, 205}, {64, 145, 145, 145}, {100, 145, 145, 145}};
    private static final String BYTES = "C000006C80208E01C0000057400000" + "6EE6000001BC18000005D800009160";
    private static final int[] J = {
        0, 0, 0, 0, 1, 1, 1, 1, 2, 2, 2, 2, 3, 3, 3, 3, 4, 4, 5, 5, 6, 6, 7, 7, 8, 9, 10, 11, 12, 13, 14, 15};
    private static final int LIMIT = 32;
    private static final int BITS = 8;

    private final Line line = new Line(4, BITS, 0);
    private final StringBuilder bits = new StringBuilder();
    private final int[] a = new int[367];
    private final int[] n = new int[367];
    private int runIndex = 0;
    private int runLength = 0;

    public static void main(String[] args) {
        Check check = new Check();
        check.same("the bytes of annex H.3", new T87ExampleTest().encoded(), BYTES);
        check.finish();
    }

    private String encoded() {
        java.util.Arrays.fill(a, 4);
        java.util.Arrays.fill(n, 1);
        for (int[] row : PICTURE) {
            for (int x = 0; x < row.length; x++) {
                write(line.sample(x, row[x]));
            }
            endRun(true);
            line.endRow();
        }
        return hex();
    }

    private void write(int folded) {
        if (folded == LinePredict.RUN) {
            runLength++;
            return;
        }
        int q = line.context();
        int size = a[q] + (q == 366 ? n[q] / 2 : 0);
        int k = 0;
        while (n[q] << k < size) {
            k++;
        }
        if (q >= 365) {
            endRun(false);
            golomb(folded, k, LIMIT - J[runIndex] - 1);
            runIndex = Math.max(0, runIndex - 1);
        } else {
            golomb(folded, k, LIMIT);
        }
        a[q] = line.state(0, q, 0);
        n[q] = line.state(0, q, 3);
    }

    private void endRun(boolean atRowEnd) {
        while (runLength >= 1 << J[runIndex] && runLength > 0) {
            bits.append('1');
            runLength -= 1 << J[runIndex];
            runIndex = Math.min(31, runIndex + 1);
        }
        if (!atRowEnd) {
            bits.append('0');
            binary(runLength, J[runIndex]);
        } else if (runLength > 0) {
            bits.append('1');
        }
        runLength = 0;
    }

    private void golomb(int value, int k, int limit) {
        boolean escaped = value >> k >= limit - BITS - 1;
        bits.append("0".repeat(escaped ? limit - BITS - 1 : value >> k)).append('1');
        if (escaped) {
            binary(value - 1, BITS);
        } else {
            binary(value, k);
        }
    }

    private void binary(int value, int length) {
        for (int i = length - 1; i >= 0; i--) {
            bits.append(value >> i & 1);
        }
    }

    private String hex() {
        while (bits.length() % 8 != 0) {
            bits.append('0');
        }
        StringBuilder text = new StringBuilder();
        for (int i = 0; i < bits.length(); i += 8) {
            text.append(String.format("%02X", Integer.parseInt(bits.substring(i, i + 8), 2)));
        }
        return text.toString();
    }
}
