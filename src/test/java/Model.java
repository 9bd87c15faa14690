import java.util.ArrayList;
import java.util.List;

/**
 * A second reading of the document, in its own order and words and without a thought of room: whole pictures are
 * kept, and each context is an object. It does not call LinePredict.
 */
final class Model {
    static final class Learnt {
        int a;
        int b;
        int c;
        int m;
        int n = 1;
    }

    static final class Half {
        final List<int[]> picture = new ArrayList<>();
        final Learnt[] contexts = new Learnt[367];
        int x = 0;
        boolean run = false;
    }

    final int width;
    final int max;
    final int near;
    final int step;
    final int range;
    int t1;
    int t2;
    int t3;
    int reset = 64;
    final Half[] halves = {new Half(), new Half()};
    boolean told = false;
    int runs = 0;
    int context = 0;
    int predicted = 0;
    int[] neighbours = new int[5];

    Model(int width, int bits, int near) {
        this.width = width < 1 ? 1 : width > 65536 ? 65536 : width;
        int few = bits < 2 ? 2 : bits > 16 ? 16 : bits;
        max = (int) Math.round(Math.pow(2, few)) - 1;
        int most = max / 2 < 255 ? max / 2 : 255;
        this.near = near < 0 ? 0 : near > most ? most : near;
        step = 2 * this.near + 1;
        range = (max + 2 * this.near) / step + 1;
        firstThresholds();
        for (Half half : halves) {
            half.picture.add(new int[this.width]);
            for (int q = 1; q <= 366; q++) {
                half.contexts[q] = new Learnt();
                half.contexts[q].a = Math.max(2, (range + 32) / 64);
            }
        }
    }

    private void firstThresholds() {
        if (max >= 128) {
            int f = (Math.min(max, 4095) + 128) / 256;
            t1 = f + 2 + 3 * near;
            t2 = 4 * f + 3 + 5 * near;
            t3 = 17 * f + 4 + 7 * near;
        } else {
            int f = 256 / (max + 1);
            t1 = Math.max(2, 3 / f + 3 * near);
            t2 = Math.max(3, 7 / f + 5 * near);
            t3 = Math.max(4, 21 / f + 7 * near);
        }
        t1 = t1 < near + 1 || t1 > max ? near + 1 : t1;
        t2 = t2 < t1 || t2 > max ? t1 : t2;
        t3 = t3 < t2 || t3 > max ? t2 : t3;
    }

    Object thresholds(int a, int b, int c) {
        if (told) {
            return "IllegalStateException";
        }
        for (int t : new int[] {a, b, c}) {
            if (t <= near || t > max) {
                return false;
            }
        }
        if (a > b || b > c) {
            return false;
        }
        t1 = a;
        t2 = b;
        t3 = c;
        return true;
    }

    Object resetTo(int at) {
        if (told) {
            return "IllegalStateException";
        }
        if (at >= 3 && at <= 255) {
            reset = at;
            return true;
        }
        return false;
    }

    /** sample() for side 0, whose number is v; back() for side 1, whose number is what is folded. */
    Object tell(int side, int x, int number) {
        Half half = halves[side];
        if (half.x == width || x != half.x) {
            return "IllegalStateException";
        }
        if (side == 0 ? number < 0 || number > max : (number < 0 || number > range) && number != LinePredict.RUN) {
            return "IllegalArgumentException";
        }
        int[] near4 = neighboursOf(half);
        int a = near4[0];
        int b = near4[1];
        int g1 = near4[3] - b;
        int g2 = b - near4[2];
        int g3 = near4[2] - a;
        boolean inRun = half.run || far(g1) <= near && far(g2) <= near && far(g3) <= near;
        if (!inRun && side == 1 && number == LinePredict.RUN) {
            return "IllegalArgumentException";
        }
        if (inRun && (side == 0 ? far(number - a) <= near : number == LinePredict.RUN)) {
            runs += half.run ? 0 : 1;
            half.run = true;
            note(half, near4, 0, a, a);
            return side == 0 ? LinePredict.RUN : a;
        }
        int q;
        int sign;
        int p;
        if (inRun) {
            q = far(a - b) <= near ? 366 : 365;
            p = q == 366 ? a : b;
            sign = q == 365 && a > b ? -1 : 1;
        } else {
            q = 81 * numberOf(g1) + 9 * numberOf(g2) + numberOf(g3);
            sign = q < 0 ? -1 : 1;
            q = far(q);
            p = cut(median(a, b, near4[2]) + half.contexts[q].c * sign);
        }
        int e;
        int rebuilt;
        if (side == 0) {
            e = quantised(sign * (number - p));
            rebuilt = cut(p + sign * e * step);
            e = ranged(e);
        } else {
            Integer found = unfolded(half.contexts[q], q, number);
            if (found == null) {
                return "IllegalArgumentException";
            }
            e = found;
            rebuilt = p + sign * e * step;
            rebuilt += rebuilt > max + near ? -range * step : rebuilt < -near ? range * step : 0;
            rebuilt = cut(rebuilt);
        }
        int folded = folded(half.contexts[q], q, e);
        learn(half.contexts[q], q, e, folded);
        runs += inRun && !half.run ? 1 : 0;
        half.run = false;
        note(half, near4, q, p, rebuilt);
        return side == 0 ? folded : rebuilt;
    }

    private int[] neighboursOf(Half half) {
        int rows = half.picture.size();
        int[] own = half.picture.get(rows - 1);
        int[] above = rows > 1 ? half.picture.get(rows - 2) : new int[width];
        int[] higher = rows > 2 ? half.picture.get(rows - 3) : new int[width];
        int x = half.x;
        int b = above[x];
        int a = x > 0 ? own[x - 1] : b;
        int c = x > 0 ? above[x - 1] : higher[0];
        int d = x < width - 1 ? above[x + 1] : b;
        return new int[] {a, b, c, d, 0};
    }

    private void note(Half half, int[] seen, int q, int p, int rebuilt) {
        seen[4] = rebuilt;
        neighbours = seen;
        context = q;
        predicted = p;
        told = true;
        half.picture.get(half.picture.size() - 1)[half.x] = rebuilt;
        half.x++;
    }

    private int numberOf(int g) {
        if (g <= -t3) {
            return -4;
        }
        if (g <= -t2) {
            return -3;
        }
        if (g <= -t1) {
            return -2;
        }
        if (g < -near) {
            return -1;
        }
        if (g <= near) {
            return 0;
        }
        return g < t1 ? 1 : g < t2 ? 2 : g < t3 ? 3 : 4;
    }

    private static int median(int a, int b, int c) {
        int[] three = {a, b, a + b - c};
        java.util.Arrays.sort(three);
        return three[1];
    }

    private int cut(int v) {
        return v < 0 ? 0 : v > max ? max : v;
    }

    private static int far(int v) {
        return v < 0 ? -v : v;
    }

    int quantised(int e) {
        return e >= 0 ? (e + near) / step : -((-e + near) / step);
    }

    private int ranged(int e) {
        if (e < 0) {
            e += range;
        }
        if (e >= (range + 1) / 2) {
            e -= range;
        }
        return e;
    }

    private int folded(Learnt l, int q, int e) {
        int k = 0;
        int a = l.a + (q == 366 ? l.n / 2 : 0);
        while (l.n * Math.pow(2, k) < a) {
            k++;
        }
        if (q >= 365) {
            boolean turn = k == 0 && e > 0 && 2 * l.m < l.n || e < 0 && (k != 0 || 2 * l.m >= l.n);
            return 2 * far(e) - (turn ? 1 : 0) - (q == 366 ? 1 : 0);
        }
        if (near == 0 && k == 0 && 2 * l.b <= -l.n) {
            return e >= 0 ? 2 * e + 1 : -2 * (e + 1);
        }
        return e >= 0 ? 2 * e : -2 * e - 1;
    }

    /** The one e in range that folds to the number, found by trying all that are near half of it. */
    private Integer unfolded(Learnt l, int q, int number) {
        for (int size = Math.max(0, number / 2 - 2); size <= number / 2 + 2; size++) {
            for (int e : new int[] {size, -size}) {
                // An e of 0 would have gone on with the run where a is predicted, and folds to -1 there.
                if (ranged(e) == e && folded(l, q, e) == number) {
                    return e;
                }
            }
        }
        return null;
    }

    private void learn(Learnt l, int q, int e, int folded) {
        if (q >= 365) {
            l.m += e < 0 ? 1 : 0;
            l.a += q == 366 ? folded / 2 : (folded + 1) / 2;
            if (l.n == reset) {
                l.a /= 2;
                l.n /= 2;
                l.m /= 2;
            }
            l.n++;
            return;
        }
        l.b += e * step;
        l.a += far(e);
        if (l.n == reset) {
            l.a /= 2;
            l.n /= 2;
            l.b = l.b >= 0 ? l.b / 2 : -((1 - l.b) / 2);
        }
        l.n++;
        if (l.b <= -l.n) {
            l.b += l.n;
            l.c = l.c > -128 ? l.c - 1 : l.c;
            l.b = l.b <= -l.n ? 1 - l.n : l.b;
        } else if (l.b > 0) {
            l.b -= l.n;
            l.c = l.c < 127 ? l.c + 1 : l.c;
            l.b = l.b > 0 ? 0 : l.b;
        }
    }

    boolean endRow() {
        boolean any = false;
        for (Half half : halves) {
            if (half.x == width) {
                half.picture.add(new int[width]);
                half.x = 0;
                half.run = false;
                any = true;
            }
        }
        return any;
    }

    Object neighbour(int k) {
        return k < 0 || k > 4 ? "IndexOutOfBoundsException" : (Object) neighbours[k];
    }

    Object state(int side, int q, int what) {
        if (side < 0 || side > 1 || q < 1 || q > 366 || what < 0 || what > 3) {
            return "IndexOutOfBoundsException";
        }
        Learnt l = halves[side].contexts[q];
        return new int[] {l.a, q < 365 ? l.b : l.m, l.c, l.n}[what];
    }

    Object setting(int k) {
        int[] all = {
            max, range, near, t1, t2, t3, reset, halves[0].x, halves[0].picture.size() - 1, halves[1].x,
            halves[1].picture.size() - 1};
        return k < 0 || k >= all.length ? "IndexOutOfBoundsException" : (Object) all[k];
    }
}
