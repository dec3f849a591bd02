import java.io.IOException;

/**
 * Each exception that a promise names, alone and together with others: the one that is named first is thrown, and
 * the refused call changes nothing. To tell that, the call is made on one of two services that are alike; both are
 * compared at once, and again after each of some changes, which bring to light what cannot be looked at.
 */
public final class RefusalsTest extends Scene {

    private static final Check CHECK = new Check("RefusalsTest");

    private static final int CONTINUATIONS = 12;
    /** With what is looked at behind each one, far fewer than 512 calls. */
    private static final int CHANGES = 20;

    private static final int[] WRONG_CAPACITIES = {-1, 5, Integer.MIN_VALUE, Integer.MAX_VALUE};
    private static final int[] WRONG_GROUPS = {-1, 4, Integer.MIN_VALUE, Integer.MAX_VALUE};
    private static final int[] WRONG_QUOTAS = {-1, 41, Integer.MIN_VALUE, Integer.MAX_VALUE};
    private static final int[] WRONG_WEIGHTS = {0, -1, 11, Integer.MIN_VALUE, Integer.MAX_VALUE};
    private static final int[] WRONG_PATHS = {-1, 6, Integer.MIN_VALUE, Integer.MAX_VALUE};
    private static final int[] WRONG_MOVES = {-1, 21, Integer.MIN_VALUE, Integer.MAX_VALUE};
    /** Wrong for every number of resources. */
    private static final int[] WRONG_MASKS = {-1, 1 << 12, 1 << 30, Integer.MIN_VALUE, Integer.MAX_VALUE};

    private interface Step {
        Object on(MatchingService x);
    }

    private interface Maker {
        MatchingService make();
    }

    private final Maker maker;

    private RefusalsTest(Maker maker) {
        this.maker = maker;
    }

    public static void main(String[] args) throws IOException {
        new Sentences(CHECK).ofDescription("A method that throws an exception changes nothing. If several exceptions "
                + "apply, the one that is named first is thrown.");
        CHECK.due("the log of the middle one", "0>1 4>2", () -> logOf(middle()));
        CHECK.due("where its requests stand", "1 0 w d 2 0", () -> standing(middle()));
        new RefusalsTest(RefusalsTest::middle).byMiddle();
        CHECK.due("the log of the full one", "38>1", () -> logOf(full()));
        CHECK.due("its resources", 12, () -> full().resourceCount());
        CHECK.due("its requests", 40, () -> full().arrivedCount());
        new RefusalsTest(RefusalsTest::full).byFull();
        new RefusalsTest(MatchingService::new).byEmpty();
        CHECK.end();
    }

    /** Five resources, all groups, each state, limits of its own, and two moves in the log. */
    private static MatchingService middle() {
        MatchingService x = withResources(2, 1, 1, 0, 1);
        x.setLimits(2, 2);
        x.setGroup(0, 2, 3);
        x.setGroup(1, 2, 7);
        x.setGroup(2, 2, 2);
        x.setGroup(3, 1, 5);
        x.arrive(0, 0b00011);
        x.arrive(1, 0b00001);
        x.arrive(2, 0b01000);
        x.arrive(3, 0b00110);
        x.depart(3);
        x.arrive(2, 0b00110);
        x.arrive(3, 0b00001);
        return x;
    }

    private static MatchingService full() {
        MatchingService x = withTwelve(1);
        for (int request = 0; request < 38; request++) {
            x.arrive(request % 4, (0b100 << request % 10) & ~(request % 3 == 0 ? ALL_TWELVE : 0));
        }
        arriveAll(x, 0, 0b11, 0b01);
        return x;
    }

    private void byMiddle() {
        for (int capacity : WRONG_CAPACITIES) {
            refuses("addResource, capacity " + capacity, WRONG_ARGUMENT, x -> x.addResource(capacity));
        }
        setCapacityRefuses(5);
        setGroupRefuses();
        setLimitsRefuses();
        arriveRefuses();
        for (int mask : new int[] {0b100000, 0b111111}) {
            refuses("arrive, mask " + mask, WRONG_ARGUMENT, x -> x.arrive(1, mask));
            refuses("setAccepts, mask " + mask, WRONG_ARGUMENT, x -> x.setAccepts(1, mask));
        }
        byRequestsOf(6);
        refuses("depart(3), again", NO_ELEMENT, x -> x.depart(3));
        refuses("setAccepts(3, 31), departed", NO_ELEMENT, x -> x.setAccepts(3, 0b11111));
        for (int mask : WRONG_MASKS) {
            refuses("setAccepts, departed, mask " + mask, NO_ELEMENT, x -> x.setAccepts(3, mask));
            refuses("setAccepts, waiting, mask " + mask, WRONG_ARGUMENT, x -> x.setAccepts(2, mask));
            refuses("setAccepts, assigned, mask " + mask, WRONG_ARGUMENT, x -> x.setAccepts(0, mask));
        }
        refuses("resourceOf(2), waiting", NO_ELEMENT, x -> x.resourceOf(2));
        refuses("resourceOf(3), departed", NO_ELEMENT, x -> x.resourceOf(3));
        refuses("movesNeeded(0), assigned", NO_ELEMENT, x -> x.movesNeeded(0));
        refuses("movesNeeded(3), departed", NO_ELEMENT, x -> x.movesNeeded(3));
        byLogOf(2);
    }

    private void byFull() {
        for (int capacity : WRONG_CAPACITIES) {
            refuses("addResource, the 13th, capacity " + capacity, WRONG_ARGUMENT, x -> x.addResource(capacity));
        }
        refuses("addResource(0), the 13th", WRONG_STATE, x -> x.addResource(0));
        refuses("addResource(4), the 13th", WRONG_STATE, x -> x.addResource(4));
        setCapacityRefuses(12);
        arriveRefuses();
        refuses("arrive, the 41st, with the mask 0", WRONG_STATE, x -> x.arrive(0, 0));
        refuses("arrive, the 41st, with all", WRONG_STATE, x -> x.arrive(3, ALL_TWELVE));
        byRequestsOf(40);
        byLogOf(1);
    }

    private void byEmpty() {
        refuses("addResource(5)", WRONG_ARGUMENT, x -> x.addResource(5));
        setCapacityRefuses(0);
        setGroupRefuses();
        setLimitsRefuses();
        arriveRefuses();
        byRequestsOf(0);
        byLogOf(0);
    }

    private void setCapacityRefuses(int resources) {
        for (int index : new int[] {-1, resources, 12, Integer.MIN_VALUE, Integer.MAX_VALUE}) {
            refuses("setCapacity of " + index, NO_INDEX, x -> x.setCapacity(index, 0));
            refuses("setCapacity of " + index + " to 5", NO_INDEX, x -> x.setCapacity(index, 5));
            refuses("load of " + index, NO_INDEX, x -> x.load(index));
        }
        for (int capacity : WRONG_CAPACITIES) {
            Class<?> due = resources == 0 ? NO_INDEX : WRONG_ARGUMENT;
            refuses("setCapacity to " + capacity, due, x -> x.setCapacity(0, capacity));
        }
    }

    private void setGroupRefuses() {
        for (int group : WRONG_GROUPS) {
            refuses("setGroup of " + group, NO_INDEX, x -> x.setGroup(group, 0, 10));
            refuses("setGroup of " + group + ", wrong quota", NO_INDEX, x -> x.setGroup(group, 41, 10));
            refuses("setGroup of " + group + ", wrong weight", NO_INDEX, x -> x.setGroup(group, 0, 0));
            refuses("setGroup of " + group + ", both wrong", NO_INDEX, x -> x.setGroup(group, -1, 11));
            refuses("assignedOf " + group, NO_INDEX, x -> x.assignedOf(group));
        }
        for (int group = 0; group <= 3; group++) {
            int number = group;
            for (int quota : WRONG_QUOTAS) {
                refuses("setGroup, quota " + quota, WRONG_ARGUMENT, x -> x.setGroup(number, quota, 9));
            }
            for (int weight : WRONG_WEIGHTS) {
                refuses("setGroup, weight " + weight, WRONG_ARGUMENT, x -> x.setGroup(number, 0, weight));
                refuses("setGroup, weight " + weight, WRONG_ARGUMENT, x -> x.setGroup(number, 40, weight));
            }
            refuses("setGroup, both wrong", WRONG_ARGUMENT, x -> x.setGroup(number, 41, 11));
        }
    }

    private void setLimitsRefuses() {
        for (int path : WRONG_PATHS) {
            refuses("setLimits, path " + path, WRONG_ARGUMENT, x -> x.setLimits(path, 0));
            refuses("setLimits, path " + path, WRONG_ARGUMENT, x -> x.setLimits(path, 20));
            refuses("setLimits, both wrong", WRONG_ARGUMENT, x -> x.setLimits(path, 21));
        }
        for (int move : WRONG_MOVES) {
            refuses("setLimits, move " + move, WRONG_ARGUMENT, x -> x.setLimits(0, move));
            refuses("setLimits, move " + move, WRONG_ARGUMENT, x -> x.setLimits(5, move));
        }
    }

    private void arriveRefuses() {
        for (int group : WRONG_GROUPS) {
            refuses("arrive, group " + group, NO_INDEX, x -> x.arrive(group, 0));
            refuses("arrive, group " + group + ", wrong mask", NO_INDEX, x -> x.arrive(group, 1 << 12));
        }
        for (int mask : WRONG_MASKS) {
            refuses("arrive, mask " + mask, WRONG_ARGUMENT, x -> x.arrive(0, mask));
        }
    }

    private void byRequestsOf(int requests) {
        for (int index : new int[] {-1, requests, 40, Integer.MIN_VALUE, Integer.MAX_VALUE}) {
            refuses("depart of " + index, NO_INDEX, x -> x.depart(index));
            refuses("setAccepts of " + index, NO_INDEX, x -> x.setAccepts(index, 0));
            refuses("setAccepts of " + index + ", wrong mask", NO_INDEX, x -> x.setAccepts(index, -1));
            refuses("state of " + index, NO_INDEX, x -> x.state(index));
            refuses("resourceOf " + index, NO_INDEX, x -> x.resourceOf(index));
            refuses("movesOf " + index, NO_INDEX, x -> x.movesOf(index));
            refuses("movesNeeded of " + index, NO_INDEX, x -> x.movesNeeded(index));
            refuses("gainBy " + index, NO_INDEX, x -> x.gainBy(index));
        }
    }

    private void byLogOf(int moves) {
        for (int index : new int[] {-1, moves, 200, Integer.MIN_VALUE, Integer.MAX_VALUE}) {
            refuses("movedRequest(" + index + ")", NO_INDEX, x -> x.movedRequest(index));
            refuses("movedTo(" + index + ")", NO_INDEX, x -> x.movedTo(index));
        }
    }

    private void refuses(String name, Class<?> due, Step call) {
        for (int continuation = 0; continuation < CONTINUATIONS; continuation++) {
            MatchingService asked = maker.make();
            MatchingService twin = maker.make();
            CHECK.due(name, due, () -> call.on(asked));
            Draw draw = new Draw(continuation);
            for (int change = 0; change <= CHANGES; change++) {
                String toldByTwin = told(twin);
                CHECK.due(name + ", and " + change + " changes after that", toldByTwin, () -> told(asked));
                Step next = nextChange(draw, twin.resourceCount(), twin.arrivedCount());
                CHECK.due(name + ", and a change", Check.answerOf(() -> next.on(twin)), () -> next.on(asked));
            }
        }
    }

    private static String told(MatchingService x) {
        return x.digest() + " " + logOf(x) + " " + x.greatestPossible() + " " + x.fairness();
    }

    private static Step nextChange(Draw draw, int resources, int requests) {
        int kind = draw.below(20);
        int mask = draw.below(1 << resources) & draw.below(1 << resources);
        if (resources < 4) {
            int capacity = 1 + draw.below(2);
            return x -> x.addResource(capacity);
        }
        if (requests < 5 || (kind < 8 && requests < 40)) {
            int group = draw.below(4);
            return x -> x.arrive(group, mask);
        }
        int request = draw.below(requests);
        if (kind < 12) {
            return x -> x.depart(request);
        }
        if (kind < 16) {
            return x -> x.setAccepts(request, mask);
        }
        int resource = draw.below(resources);
        int capacity = draw.below(3);
        return x -> x.setCapacity(resource, capacity);
    }
}
