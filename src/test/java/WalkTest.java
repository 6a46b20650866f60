import java.util.ArrayDeque;
import java.util.Arrays;
import java.util.Deque;
import java.util.Random;

/** Promises 21 and 22: pick and walk, against a search of all orders over the steps of the streets. */
public final class WalkTest {
    private static final int STREETS = 8;
    private static final int LENGTH = 21;
    private static final int APART = 6;
    private static final int WIDTH = (STREETS - 1) * APART + 1;

    private WalkTest() {
    }

    public static void main(String[] args) {
        onePick();
        pairs();
        anyPicks();
        Check.finish();
    }

    private static void onePick() {
        for (int street = 0; street < STREETS; street++) {
            for (int place = 1; place <= 20; place++) {
                dueWalk(new int[][] {{street, place}});
            }
        }
    }

    private static void pairs() {
        Random random = new Random(7);
        for (int i = 0; i < 400; i++) {
            dueWalk(somePicks(random, 2, 8));
        }
    }

    private static void anyPicks() {
        Random random = new Random(11);
        for (int i = 0; i < 1500; i++) {
            dueWalk(somePicks(random, 3 + random.nextInt(8), 1 + random.nextInt(8)));
        }
    }

    private static int[][] somePicks(Random random, int many, int streets) {
        int[][] picks = new int[many][];
        int first = random.nextInt(STREETS - streets + 1);
        for (int i = 0; i < many; i++) {
            int place = random.nextInt(3) == 0 ? (random.nextBoolean() ? 1 : 20) : 1 + random.nextInt(20);
            picks[i] = new int[] {first + random.nextInt(streets), place};
        }
        return picks;
    }

    private static void dueWalk(int[][] picks) {
        PostHouse house = new PostHouse();
        for (int i = 0; i < picks.length; i++) {
            house.thing(i, 1, picks[i][0], picks[i][1]);
            house.pick(i);
        }
        Check.due("walk() by " + Arrays.deepToString(picks), house.walk(), least(picks));
    }

    /** The least round by trying every subset's last pick; distances are found step by step. */
    static int least(int[][] picks) {
        int many = picks.length;
        if (many == 0) {
            return 0;
        }
        int[][] from = new int[many][];
        for (int i = 0; i < many; i++) {
            from[i] = distances(picks[i][0] * APART, picks[i][1]);
        }
        int[][] best = new int[1 << many][many];
        for (int[] row : best) {
            Arrays.fill(row, 1000000);
        }
        for (int i = 0; i < many; i++) {
            best[1 << i][i] = from[i][0];
        }
        int all = (1 << many) - 1;
        for (int set = 1; set <= all; set++) {
            for (int last = 0; last < many; last++) {
                for (int next = 0; next < many; next++) {
                    if ((set >> next & 1) == 0) {
                        int with = set | 1 << next;
                        int steps = from[last][spot(picks[next][0] * APART, picks[next][1])];
                        best[with][next] = Math.min(best[with][next], best[set][last] + steps);
                    }
                }
            }
        }
        int least = 1000000;
        for (int last = 0; last < many; last++) {
            least = Math.min(least, best[all][last] + from[last][0]);
        }
        return least;
    }

    private static int spot(int x, int y) {
        return y * WIDTH + x;
    }

    private static boolean open(int x, int y) {
        boolean inside = x >= 0 && x < WIDTH && y >= 0 && y <= LENGTH;
        return inside && (y == 0 || y == LENGTH || x % APART == 0);
    }

    private static int[] distances(int x, int y) {
        int[] far = new int[WIDTH * (LENGTH + 1)];
        Arrays.fill(far, -1);
        Deque<int[]> open = new ArrayDeque<>();
        far[spot(x, y)] = 0;
        open.add(new int[] {x, y});
        int[][] steps = {{1, 0}, {-1, 0}, {0, 1}, {0, -1}};
        while (!open.isEmpty()) {
            int[] at = open.poll();
            for (int[] step : steps) {
                int[] to = {at[0] + step[0], at[1] + step[1]};
                if (open(to[0], to[1]) && far[spot(to[0], to[1])] < 0) {
                    far[spot(to[0], to[1])] = far[spot(at[0], at[1])] + 1;
                    open.add(to);
                }
            }
        }
        return far;
    }
}
