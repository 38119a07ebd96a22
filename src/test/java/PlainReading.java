/**
 * A second reading of the document, written apart from the class and in the order of the
 * document's own sentences, for runs too long to be worked out by hand. Arguments are right ones.
 */
final class PlainReading {
    final int[] setting = {30, 1000, 2000, 250, 200, 5, 8};
    final boolean[] there = new boolean[6];
    final boolean[] follows = new boolean[6];
    final long[][] place = new long[6][3];
    final long[][] speed = new long[6][3];
    /** Of i below j: 1 UP, -1 DOWN, 0 without advice. */
    final int[][] sense = new int[6][6];
    final int[][] strength = new int[6][6];
    final int[][] stood = new int[6][6];
    final int[][] turned = new int[6][6];
    final long[][] leastDistance = new long[6][6];
    final long[][] leastHeight = new long[6][6];
    final int[] all = new int[5];

    void place(int i, int x, int y, int z) {
        if (!there[i]) {
            speed[i] = new long[] {0, 0, 0};
            follows[i] = true;
        }
        there[i] = true;
        place[i] = new long[] {x, y, z};
        endAdvice(i);
        for (int k = 0; k < 6; k++) {
            leastDistance[Math.min(i, k)][Math.max(i, k)] = Long.MAX_VALUE;
            leastHeight[Math.min(i, k)][Math.max(i, k)] = Long.MAX_VALUE;
            if (k != i && there[k]) {
                look(Math.min(i, k), Math.max(i, k));
            }
        }
    }

    void speed(int i, int vx, int vy, int vz) {
        speed[i] = new long[] {vx, vy, vz};
        endAdvice(i);
    }

    void leave(int i) {
        there[i] = false;
        endAdvice(i);
    }

    private void endAdvice(int i) {
        for (int k = 0; k < 6; k++) {
            clear(Math.min(i, k), Math.max(i, k));
        }
    }

    private void clear(int i, int j) {
        sense[i][j] = 0;
        strength[i][j] = 0;
        stood[i][j] = 0;
        turned[i][j] = 0;
    }

    private void look(int i, int j) {
        long x = diff(place, i, j, 0);
        long y = diff(place, i, j, 1);
        leastDistance[i][j] = Math.min(leastDistance[i][j], x * x + y * y);
        leastHeight[i][j] = Math.min(leastHeight[i][j], Math.abs(diff(place, i, j, 2)));
    }

    private static long diff(long[][] of, int i, int j, int axis) {
        return of[j][axis] - of[i][axis];
    }

    private long closing(int i, int j) {
        return diff(place, i, j, 0) * diff(speed, i, j, 0) + diff(place, i, j, 1) * diff(speed, i, j, 1);
    }

    boolean alert(int i, int j) {
        long x = diff(place, i, j, 0);
        long y = diff(place, i, j, 1);
        long z = diff(place, i, j, 2);
        long u = diff(speed, i, j, 0);
        long v = diff(speed, i, j, 1);
        long w = diff(speed, i, j, 2);
        long time = setting[0];
        long near = (long) setting[1] * setting[1];
        long miss = (long) setting[2] * setting[2];
        long c = closing(i, j);
        if (!(x * x + y * y <= near || (c < 0 && x * x + y * y - near <= time * -c))) {
            return false;
        }
        long cross = x * v - y * u;
        if (!(x * x + y * y <= near || cross * cross <= miss * (u * u + v * v))) {
            return false;
        }
        boolean opposite = (z > 0 && w < 0) || (z < 0 && w > 0);
        return Math.abs(z) <= setting[3] || (opposite && Math.abs(z) <= time * Math.abs(w));
    }

    long timeLeft(int i, int j) {
        long c = closing(i, j);
        long u = diff(speed, i, j, 0);
        long v = diff(speed, i, j, 1);
        return c >= 0 ? 0 : Math.min(Math.floorDiv(-c, u * u + v * v), setting[0]);
    }

    long part(int i, int j, int way, int s, int stoodSeconds) {
        long t = timeLeft(i, j);
        long a = Math.min(t, setting[5]) - stoodSeconds;
        if (a < 0) {
            a = 0;
        }
        long b = t - a;
        int up = way > 0 ? i : j;
        int down = way > 0 ? j : i;
        long upHeight = place[up][2] + speed[up][2] * a + Math.max(speed[up][2], 12L * s) * b;
        long downHeight = place[down][2] + speed[down][2] * a + Math.min(speed[down][2], -12L * s) * b;
        return upHeight - downHeight;
    }

    int enough(int i, int j, int way, int from, int stoodSeconds) {
        int s = from;
        while (s < 4 && part(i, j, way, s, stoodSeconds) < setting[4]) {
            s++;
        }
        return s;
    }

    int chosen(int i, int j) {
        int up = enough(i, j, 1, 1, 0);
        int down = enough(i, j, -1, 1, 0);
        long upPart = part(i, j, 1, up, 0);
        long downPart = part(i, j, -1, down, 0);
        if (up < down || (up == down && upPart > downPart)) {
            return 1;
        }
        if (up > down || upPart < downPart) {
            return -1;
        }
        return place[i][2] >= place[j][2] ? 1 : -1;
    }

    int step(int n) {
        for (int k = 0; k < n; k++) {
            second();
        }
        int count = 0;
        for (int i = 0; i < 6; i++) {
            for (int j = i + 1; j < 6; j++) {
                count += Math.abs(sense[i][j]);
            }
        }
        return count;
    }

    private void second() {
        long[] bound = {200000, 200000, 20000};
        for (int i = 0; i < 6; i++) {
            for (int axis = 0; there[i] && axis < 3; axis++) {
                place[i][axis] = Math.max(-bound[axis], Math.min(bound[axis], place[i][axis] + speed[i][axis]));
            }
        }
        for (int i = 0; i < 6; i++) {
            for (int j = i + 1; j < 6; j++) {
                if (there[i] && there[j]) {
                    look(i, j);
                }
            }
        }
        for (int i = 0; i < 6; i++) {
            if (there[i] && follows[i]) {
                steer(i);
            }
        }
        for (int i = 0; i < 6; i++) {
            for (int j = i + 1; j < 6; j++) {
                if (there[i] && there[j]) {
                    advise(i, j);
                }
            }
        }
        all[4]++;
    }

    private void steer(int i) {
        int up = 0;
        int down = 0;
        for (int k = 0; k < 6; k++) {
            int low = Math.min(i, k);
            int high = Math.max(i, k);
            int way = i < k ? sense[low][high] : -sense[low][high];
            if (way != 0 && stood[low][high] >= setting[5]) {
                up = way > 0 ? Math.max(up, strength[low][high]) : up;
                down = way < 0 ? Math.max(down, strength[low][high]) : down;
            }
        }
        for (int k = 0; k < setting[6]; k++) {
            long vz = speed[i][2];
            if (up > 0 && down > 0) {
                speed[i][2] -= Long.signum(vz);
            } else if (up > 0 && vz < 12 * up) {
                speed[i][2]++;
            } else if (down > 0 && vz > -12 * down) {
                speed[i][2]--;
            }
        }
    }

    private void advise(int i, int j) {
        if (sense[i][j] == 0) {
            if (alert(i, j)) {
                int way = chosen(i, j);
                strength[i][j] = enough(i, j, way, 1, 0);
                sense[i][j] = way;
                all[0]++;
            }
            return;
        }
        if (!alert(i, j) && closing(i, j) >= 0) {
            clear(i, j);
            all[3]++;
            return;
        }
        stood[i][j]++;
        int way = sense[i][j];
        if (part(i, j, way, 4, stood[i][j]) < 0 && part(i, j, -way, 4, 0) >= setting[4]
            && turned[i][j] == 0 && timeLeft(i, j) > setting[5]) {
            sense[i][j] = -way;
            strength[i][j] = enough(i, j, -way, 1, 0);
            stood[i][j] = 0;
            turned[i][j] = 1;
            all[1]++;
            return;
        }
        int s = enough(i, j, way, strength[i][j], stood[i][j]);
        all[2] += s > strength[i][j] ? 1 : 0;
        strength[i][j] = s;
    }

    long told(int i, int what) {
        return what < 3 ? place[i][what] : what < 6 ? speed[i][what - 3] : follows[i] ? 1 : 0;
    }

    long pair(int one, int two, int what) {
        int i = Math.min(one, two);
        int j = Math.max(one, two);
        int side = one < two ? 1 : -1;
        int way = sense[i][j];
        int now = chosen(i, j);
        long[] answers = {
            alert(i, j) ? 1 : 0,
            timeLeft(i, j),
            way == 0 ? 0 : way == side ? 1 : 2,
            strength[i][j],
            stood[i][j],
            turned[i][j],
            way == 0 ? 0 : part(i, j, way, strength[i][j], stood[i][j]),
            part(i, j, now, enough(i, j, now, 1, 0), 0),
            now == side ? 1 : 2,
            Math.min(leastDistance[i][j], 2147483647L),
            leastHeight[i][j],
        };
        return answers[what];
    }
}
