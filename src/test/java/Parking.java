import java.util.ArrayList;
import java.util.List;

/** The plan by its words: every plan is played through, train by train, and the first of the best is kept. */
final class Parking {
    private static final int ROADS = 3;
    private static final int ROAD_LENGTH = 4;

    private Parking() {
    }

    /** The roads of the plan, for trains that came in the order of their times here. */
    static int[] best(int[] times) {
        int[] roads = new int[times.length];
        int[] best = null;
        int fewest = Integer.MAX_VALUE;
        do {
            int moves = moves(times, roads);
            if (moves < fewest) {
                fewest = moves;
                best = roads.clone();
            }
        } while (next(roads));
        return best;
    }

    /** Steps to the plan that comes next if plans are put in order by their first difference. */
    private static boolean next(int[] roads) {
        for (int i = roads.length - 1; i >= 0; i--) {
            if (roads[i] < ROADS - 1) {
                roads[i]++;
                return true;
            }
            roads[i] = 0;
        }
        return false;
    }

    /** More than any if a road has no room. */
    static int moves(int[] times, int[] roads) {
        List<List<Integer>> standing = new ArrayList<>();
        for (int road = 0; road < ROADS; road++) {
            standing.add(new ArrayList<>());
        }
        for (int i = 0; i < times.length; i++) {
            standing.get(roads[i]).add(times[i]);
            if (standing.get(roads[i]).size() > ROAD_LENGTH) {
                return Integer.MAX_VALUE;
            }
        }
        int moves = 0;
        for (int time = 0; time <= 99; time++) {
            for (List<Integer> road : standing) {
                int place = road.indexOf(time);
                if (place >= 0) {
                    moves += road.size() - 1 - place;
                    road.remove(place);
                }
            }
        }
        return moves;
    }
}
