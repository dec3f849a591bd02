import java.util.NoSuchElementException;

/** What the tests have in common: the exceptions by name, services made ready, and texts that tell where one stands. */
abstract class Scene {

    static final Class<?> NO_INDEX = IndexOutOfBoundsException.class;
    static final Class<?> NO_ELEMENT = NoSuchElementException.class;
    static final Class<?> WRONG_ARGUMENT = IllegalArgumentException.class;
    static final Class<?> WRONG_STATE = IllegalStateException.class;

    /** The mask of twelve resources. */
    static final int ALL_TWELVE = 0xfff;

    static MatchingService withResources(int... capacities) {
        MatchingService x = new MatchingService();
        for (int capacity : capacities) {
            x.addResource(capacity);
        }
        return x;
    }

    static MatchingService withTwelve(int capacity) {
        MatchingService x = new MatchingService();
        for (int resource = 0; resource < 12; resource++) {
            x.addResource(capacity);
        }
        return x;
    }

    static void arriveAll(MatchingService x, int group, int... masks) {
        for (int mask : masks) {
            x.arrive(group, mask);
        }
    }

    static void arriveMany(MatchingService x, int count, int group, int mask) {
        for (int arrival = 0; arrival < count; arrival++) {
            x.arrive(group, mask);
        }
    }

    static void departAll(MatchingService x) {
        for (int request = 0; request < x.arrivedCount(); request++) {
            if (x.state(request) != 2) {
                x.depart(request);
            }
        }
    }

    /**
     * Requests 0 to n - 1 of group 0 at the resources with their numbers, each accepting the next resource too; the
     * resource n is free. So a request that accepts the resource a alone needs n - a moves.
     */
    static MatchingService chain(int requests) {
        MatchingService x = new MatchingService();
        for (int resource = 0; resource <= requests; resource++) {
            x.addResource(1);
        }
        for (int request = 0; request < requests; request++) {
            x.arrive(0, 0b11 << request);
        }
        return x;
    }

    static MatchingService withForty() {
        MatchingService x = withTwelve(4);
        for (int request = 0; request < 40; request++) {
            x.arrive(request % 4, ALL_TWELVE);
        }
        return x;
    }

    /** Request 0 waits, 1 is assigned, 2 has departed. */
    static MatchingService withEachState() {
        MatchingService x = withResources(0, 1);
        arriveAll(x, 0, 0b01, 0b10, 0b10);
        x.depart(2);
        return x;
    }

    /** Requests 0 and 1 were moved, in this order. */
    static MatchingService withTwoMoves() {
        MatchingService x = chain(2);
        x.arrive(0, 0b1);
        return x;
    }

    /** Requests 0 to 5 could each give its resource, an even one, to one of the six that wait. */
    static MatchingService sixPairs() {
        MatchingService x = withTwelve(1);
        x.setLimits(0, 0);
        for (int pair = 0; pair < 6; pair++) {
            x.arrive(0, 0b11 << 2 * pair);
        }
        for (int pair = 0; pair < 6; pair++) {
            x.arrive(1, 0b1 << 2 * pair);
        }
        return x;
    }

    /** For each request its resource, or w if it waits, or d if it has departed. */
    static String standing(MatchingService x) {
        StringBuilder text = new StringBuilder();
        for (int request = 0; request < x.arrivedCount(); request++) {
            switch (x.state(request)) {
                case 0 -> text.append('w');
                case 1 -> text.append(x.resourceOf(request));
                default -> text.append('d');
            }
            text.append(' ');
        }
        return text.toString().trim();
    }

    static String logOf(MatchingService x) {
        StringBuilder text = new StringBuilder();
        for (int index = 0; index < x.moveCount(); index++) {
            text.append(x.movedRequest(index)).append('>').append(x.movedTo(index)).append(' ');
        }
        return text.toString().trim();
    }

    static long digestOf(int... numbers) {
        long digest = 43;
        for (int number : numbers) {
            digest = digest * 31 + number;
        }
        return digest;
    }
}
