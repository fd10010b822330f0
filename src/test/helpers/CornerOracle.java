/**
 * Looks for the least thrust in another way than the class: it tries every point (H, V, M) at
 * which three of the document's conditions are just met. The least H is at one of them.
 */
final class CornerOracle {
    private final long[][] conditions;
    private boolean isSafe = false;
    private long leastTop = 0;
    private long leastDivisor = 1;

    /** joints: innerX, innerY, outerX, outerY of each; loads: one for each place. */
    CornerOracle(int[][] joints, int density, int[] loads, int grip) {
        conditions = new long[joints.length * 5 + 1][];
        long force = 0;
        long moment = 0;
        int count = 0;
        conditions[count++] = new long[] {1, 0, 0, 0};
        for (int j = 0; j < joints.length; j++) {
            int[] at = joints[j];
            long dx = at[2] - at[0];
            long dy = at[3] - at[1];
            // square to the joint: H * dy - (V - force) * dx; along it: H * dx + (V - force) * dy
            conditions[count++] = new long[] {dy, -dx, 0, force * dx};
            conditions[count++] = new long[] {grip * dy - 10 * dx, -grip * dx - 10 * dy, 0,
                force * (grip * dx + 10 * dy)};
            conditions[count++] = new long[] {grip * dy + 10 * dx, -grip * dx + 10 * dy, 0,
                force * (grip * dx - 10 * dy)};
            // the turning of the force about the inner and about the outer point
            conditions[count++] = new long[] {-at[1], at[0], -1, moment - at[0] * force};
            conditions[count++] = new long[] {at[3], -at[2], 1, at[2] * force - moment};
            if (j + 1 < joints.length) {
                int[] next = joints[j + 1];
                long one = triangle(at[0], at[1], next[0], next[1], next[2], next[3]);
                long two = triangle(at[0], at[1], next[2], next[3], at[2], at[3]);
                force += 3 * (one + two) * density + loads[j];
                moment += density * (one * (at[0] + next[0] + next[2]) + two * (at[0] + next[2] + at[2]));
                moment += (long) loads[j] * at[2];
            }
        }
        tryAllCorners();
    }

    boolean isSafe() {
        return isSafe;
    }

    long leastRoundedUp() {
        return -Math.floorDiv(-leastTop, leastDivisor);
    }

    private static long triangle(long ax, long ay, long bx, long by, long cx, long cy) {
        return (bx - ax) * (cy - ay) - (by - ay) * (cx - ax);
    }

    private void tryAllCorners() {
        for (int a = 0; a < conditions.length; a++) {
            for (int b = a + 1; b < conditions.length; b++) {
                for (int c = b + 1; c < conditions.length; c++) {
                    tryCorner(conditions[a], conditions[b], conditions[c]);
                }
            }
        }
    }

    private void tryCorner(long[] a, long[] b, long[] c) {
        long divisor = determinant(a, b, c, 0, 1, 2);
        if (divisor == 0) {
            return;
        }
        // the conditions read p * H + q * V + s * M = -rest
        long h = -determinant(a, b, c, 3, 1, 2);
        long v = -determinant(a, b, c, 0, 3, 2);
        long m = -determinant(a, b, c, 0, 1, 3);
        if (divisor < 0) {
            divisor = -divisor;
            h = -h;
            v = -v;
            m = -m;
        }
        if (isSafe && Math.multiplyExact(h, leastDivisor) >= Math.multiplyExact(leastTop, divisor)) {
            return;
        }
        for (long[] one : conditions) {
            long sum = Math.addExact(Math.addExact(Math.multiplyExact(one[0], h), Math.multiplyExact(one[1], v)),
                Math.addExact(Math.multiplyExact(one[2], m), Math.multiplyExact(one[3], divisor)));
            if (sum < 0) {
                return;
            }
        }
        isSafe = true;
        leastTop = h;
        leastDivisor = divisor;
    }

    private static long determinant(long[] a, long[] b, long[] c, int x, int y, int z) {
        return times(a[x], times(b[y], c[z]) - times(b[z], c[y]))
            - times(a[y], times(b[x], c[z]) - times(b[z], c[x]))
            + times(a[z], times(b[x], c[y]) - times(b[y], c[x]));
    }

    private static long times(long one, long other) {
        return Math.multiplyExact(one, other);
    }
}
