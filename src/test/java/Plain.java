import java.util.Arrays;

/** Polynomials modulo 32003 in the plainest form: new arrays, lowest power first, no 0 on top. */
final class Plain {
    static final int MODULUS = 32003;

    private Plain() {
    }

    static long mod(long v) {
        return Math.floorMod(v, (long) MODULUS);
    }

    static long inverse(long v) {
        return java.math.BigInteger.valueOf(v).modInverse(java.math.BigInteger.valueOf(MODULUS)).longValue();
    }

    static long[] trim(long[] p) {
        int length = p.length;
        while (length > 0 && mod(p[length - 1]) == 0) {
            length--;
        }
        long[] result = Arrays.copyOf(p, length);
        for (int i = 0; i < length; i++) {
            result[i] = mod(result[i]);
        }
        return result;
    }

    static int degree(long[] p) {
        return trim(p).length - 1;
    }

    static long number(long[] p, int power) {
        return power < 0 || power >= p.length ? 0 : mod(p[power]);
    }

    static long[] times(long[] p, long[] q) {
        long[] result = new long[p.length + q.length];
        for (int i = 0; i < p.length; i++) {
            for (int j = 0; j < q.length; j++) {
                result[i + j] = mod(result[i + j] + p[i] * q[j]);
            }
        }
        return trim(result);
    }

    /** n + k in place of n: each power of n is multiplied out. */
    static long[] moved(long[] p, long k) {
        long[] result = new long[p.length];
        long[] power = {1};
        for (int i = 0; i < p.length; i++) {
            for (int j = 0; j < power.length; j++) {
                result[j] = mod(result[j] + p[i] * power[j]);
            }
            power = times(power, new long[] {mod(k), 1});
        }
        return trim(result);
    }

    static long[] rest(long[] p, long[] divisor) {
        long[] result = trim(p);
        long[] d = trim(divisor);
        while (result.length >= d.length) {
            result = step(result, d, result[result.length - 1] * inverse(d[d.length - 1]));
        }
        return result;
    }

    static long[] quotient(long[] p, long[] divisor) {
        long[] left = trim(p);
        long[] d = trim(divisor);
        long[] result = new long[Math.max(left.length - d.length + 1, 0)];
        while (left.length >= d.length) {
            long factor = mod(left[left.length - 1] * inverse(d[d.length - 1]));
            result[left.length - d.length] = factor;
            left = step(left, d, factor);
        }
        if (left.length != 0) {
            throw new IllegalStateException("a rest is left");
        }
        return trim(result);
    }

    private static long[] step(long[] p, long[] d, long factor) {
        long[] result = p.clone();
        int offset = p.length - d.length;
        for (int i = 0; i < d.length; i++) {
            result[offset + i] = mod(result[offset + i] - mod(factor) * d[i]);
        }
        return trim(result);
    }

    static long[] common(long[] p, long[] q) {
        long[] one = trim(p);
        long[] other = trim(q);
        while (other.length > 0) {
            long[] rest = rest(one, other);
            one = other;
            other = rest;
        }
        return times(one, new long[] {inverse(one[one.length - 1])});
    }

    static long at(long[] p, long n) {
        long result = 0;
        for (int i = p.length - 1; i >= 0; i--) {
            result = mod(result * mod(n) + p[i]);
        }
        return result;
    }

    /** lead times the product of n less each root. */
    static long[] ofRoots(long lead, long... roots) {
        long[] result = {mod(lead)};
        for (long root : roots) {
            result = times(result, new long[] {mod(-root), 1});
        }
        return result;
    }

    static int rank(long[][] rows) {
        long[][] m = new long[rows.length][];
        for (int i = 0; i < rows.length; i++) {
            m[i] = rows[i].clone();
        }
        int rank = 0;
        for (int column = 0; m.length > 0 && column < m[0].length; column++) {
            int pivot = rank;
            while (pivot < m.length && m[pivot][column] == 0) {
                pivot++;
            }
            if (pivot == m.length) {
                continue;
            }
            long[] row = m[pivot];
            m[pivot] = m[rank];
            m[rank] = row;
            long unit = inverse(row[column]);
            for (int i = rank + 1; i < m.length; i++) {
                long factor = mod(m[i][column] * unit);
                for (int j = column; factor != 0 && j < row.length; j++) {
                    m[i][j] = mod(m[i][j] - factor * row[j]);
                }
            }
            rank++;
        }
        return rank;
    }

    static ClosedSums sums(long[] top, long[] bottom) {
        ClosedSums x = new ClosedSums();
        fill(x, top, bottom);
        return x;
    }

    static void fill(ClosedSums x, long[] top, long[] bottom) {
        for (int power = 0; power <= 4; power++) {
            x.put(true, power, number(top, power));
            x.put(false, power, number(bottom, power));
        }
    }
}
