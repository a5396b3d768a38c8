import java.util.ArrayList;
import java.util.HashMap;
import java.util.List;
import java.util.Map;

/**
 * Braids as the matrices of Lawrence and Krammer, which tell any two that are not alike from each other: here with
 * two fixed large numbers for q and t and reckoned by a prime, and seen by what they make of one column.
 */
final class Braids {
    private static final long PRIME = 2147483647L;
    private static final long Q = 1234567891L;
    private static final long T = 987654321L;
    private static final int BARS = 5;
    private static final int[][] PAIRS = pairs();
    private static final int SIZE = PAIRS.length;
    /** MATRICES[i + 4] is that of the pass i. */
    private static final long[][][] MATRICES = matrices();
    private static final List<Map<List<Long>, List<Integer>>> FREEING = new ArrayList<>();

    private Braids() {
    }

    private static int[][] pairs() {
        int[][] all = new int[BARS * (BARS - 1) / 2][];
        int n = 0;
        for (int i = 1; i <= BARS; i++) {
            for (int j = i + 1; j <= BARS; j++) {
                all[n++] = new int[] {i, j};
            }
        }
        return all;
    }

    private static int at(int i, int j) {
        for (int n = 0; n < SIZE; n++) {
            if (PAIRS[n][0] == i && PAIRS[n][1] == j) {
                return n;
            }
        }
        throw new IllegalStateException("no pair " + i + " " + j);
    }

    private static long mod(long v) {
        return Math.floorMod(v, PRIME);
    }

    private static long power(long base, long n) {
        long all = 1;
        for (long b = base, e = n; e > 0; e >>= 1, b = mod(b * b)) {
            all = (e & 1) == 1 ? mod(all * b) : all;
        }
        return all;
    }

    /** Column n is what the pass k makes of pair n. */
    private static long[][] matrix(int k) {
        long[][] m = new long[SIZE][SIZE];
        int mine = at(k, k + 1);
        for (int n = 0; n < SIZE; n++) {
            int i = PAIRS[n][0];
            int j = PAIRS[n][1];
            if (i == k && j == k + 1) {
                m[n][n] = mod(T * power(Q, 2));
            } else if (j == k) {
                m[n][n] = mod(1 - Q);
                m[at(i, k + 1)][n] = Q;
            } else if (j == k + 1) {
                m[at(i, k)][n] = 1;
                m[mine][n] = mod(mod(T * power(Q, k - i + 1)) * mod(Q - 1));
            } else if (i == k) {
                m[mine][n] = mod(mod(T * Q) * mod(Q - 1));
                m[at(k + 1, j)][n] = Q;
            } else if (i == k + 1) {
                m[at(k, j)][n] = 1;
                m[n][n] = mod(1 - Q);
            } else {
                m[n][n] = 1;
                m[mine][n] = i < k && j > k + 1 ? mod(mod(T * power(Q, k - i)) * power(mod(Q - 1), 2)) : 0;
            }
        }
        return m;
    }

    private static long[][] contrary(long[][] of) {
        long[][] m = new long[SIZE][2 * SIZE];
        for (int r = 0; r < SIZE; r++) {
            System.arraycopy(of[r], 0, m[r], 0, SIZE);
            m[r][SIZE + r] = 1;
        }
        for (int c = 0; c < SIZE; c++) {
            int r = c;
            while (m[r][c] == 0) {
                r++;
            }
            long[] lead = m[r];
            m[r] = m[c];
            m[c] = lead;
            long by = power(lead[c], PRIME - 2);
            for (int k = 0; k < 2 * SIZE; k++) {
                lead[k] = mod(lead[k] * by);
            }
            for (int other = 0; other < SIZE; other++) {
                long times = m[other][c];
                for (int k = 0; k < 2 * SIZE && other != c; k++) {
                    m[other][k] = mod(m[other][k] - times * lead[k]);
                }
            }
        }
        long[][] answer = new long[SIZE][SIZE];
        for (int r = 0; r < SIZE; r++) {
            System.arraycopy(m[r], SIZE, answer[r], 0, SIZE);
        }
        return answer;
    }

    private static long[][][] matrices() {
        long[][][] all = new long[2 * BARS - 1][][];
        for (int k = 1; k < BARS; k++) {
            all[k + 4] = matrix(k);
            all[4 - k] = contrary(all[k + 4]);
        }
        return all;
    }

    /** What a row of passes makes of a fixed column: the last pass comes first, as it stands nearest to the column. */
    static List<Long> seen(List<Integer> passes) {
        long[] column = new long[SIZE];
        for (int n = 0; n < SIZE; n++) {
            column[n] = power(48271, n + 1);
        }
        for (int k = passes.size() - 1; k >= 0; k--) {
            long[][] m = MATRICES[passes.get(k) + 4];
            long[] next = new long[SIZE];
            for (int r = 0; r < SIZE; r++) {
                for (int c = 0; c < SIZE; c++) {
                    next[r] = mod(next[r] + m[r][c] * column[c]);
                }
            }
            column = next;
        }
        List<Long> answer = new ArrayList<>();
        for (long v : column) {
            answer.add(v);
        }
        return answer;
    }

    static boolean isNone(List<Integer> passes) {
        return seen(passes).equals(seen(List.of()));
    }

    /** The first of the shortest rows behind which these passes are alike to none; null, if all are longer than six. */
    static List<Integer> freeing(int bars, List<Integer> passes) {
        while (FREEING.size() <= BARS) {
            FREEING.add(FREEING.size() < 2 ? null : shortest(FREEING.size()));
        }
        List<Integer> contrary = new ArrayList<>();
        for (int k = passes.size() - 1; k >= 0; k--) {
            contrary.add(-passes.get(k));
        }
        return FREEING.get(bars).get(seen(contrary));
    }

    /** Each braid of up to six passes with its first shortest row; a first shortest row begins with another one. */
    private static Map<List<Long>, List<Integer>> shortest(int bars) {
        Map<List<Long>, List<Integer>> all = new HashMap<>();
        List<List<Integer>> layer = new ArrayList<>();
        layer.add(new ArrayList<>());
        all.put(seen(layer.get(0)), layer.get(0));
        for (int n = 1; n <= 6; n++) {
            List<List<Integer>> next = new ArrayList<>();
            for (List<Integer> begun : layer) {
                for (int k = 2; k < 2 * bars; k++) {
                    List<Integer> longer = new ArrayList<>(begun);
                    longer.add(k % 2 == 0 ? k / 2 : -(k / 2));
                    if (all.putIfAbsent(seen(longer), longer) == null) {
                        next.add(longer);
                    }
                }
            }
            layer = next;
        }
        return all;
    }
}
