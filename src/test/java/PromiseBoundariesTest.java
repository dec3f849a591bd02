import java.io.IOException;
import java.math.BigInteger;
import java.util.ArrayList;
import java.util.List;

/** The boundary cases that the lines of the promises name; each test names its line. */
public final class PromiseBoundariesTest extends Scene {

    private static final Check CHECK = new Check("PromiseBoundariesTest");

    private static final int[] FAR_INDICES = {-1, Integer.MIN_VALUE, Integer.MAX_VALUE};

    private final Sentences sentences;

    private PromiseBoundariesTest() throws IOException {
        sentences = new Sentences(CHECK);
    }

    public static void main(String[] args) throws IOException {
        PromiseBoundariesTest test = new PromiseBoundariesTest();
        test.newObject();
        test.changesOfResources();
        test.changesOfGroupsAndLimits();
        test.changesOfRequests();
        test.whatIs();
        test.logOfMoves();
        test.whatCouldBe();
        test.fairnessAndDigest();
        test.allLines();
        CHECK.end();
    }

    /** An index of resources, requests or moves is asked for. */
    private interface Asked {
        Object at(MatchingService x, int index);
    }

    private static void stands(String name, String due, MatchingService x) {
        CHECK.due(name + ": where the requests stand", due, () -> standing(x));
    }

    /** There are so many: neither the one behind the last, nor one far away, nor a negative one. */
    private static void outside(String name, int count, MatchingService x, Asked asked) {
        CHECK.due(name + " at " + count, NO_INDEX, () -> asked.at(x, count));
        for (int index : FAR_INDICES) {
            CHECK.due(name + " at " + index, NO_INDEX, () -> asked.at(x, index));
        }
    }

    private static MatchingService withForty() {
        MatchingService x = withTwelve(4);
        for (int request = 0; request < 40; request++) {
            x.arrive(request % 4, ALL_TWELVE);
        }
        return x;
    }

    /** Request 0 waits, 1 is assigned, 2 has departed. */
    private static MatchingService withEachState() {
        MatchingService x = withResources(0, 1);
        arriveAll(x, 0, 0b01, 0b10, 0b10);
        x.depart(2);
        return x;
    }

    /** Requests 0 and 1 were moved, in this order. */
    private static MatchingService withTwoMoves() {
        MatchingService x = chain(2);
        x.arrive(0, 0b1);
        return x;
    }

    // ---- promise 1

    private void newObject() {
        sentences.ofPromise(1, "Creates a service without resources and requests.");
        MatchingService x = new MatchingService();
        CHECK.due("resourceCount()", 0, () -> x.resourceCount());
        CHECK.due("arrivedCount()", 0, () -> x.arrivedCount());
        CHECK.due("assignedCount()", 0, () -> x.assignedCount());
        CHECK.due("waitingCount()", 0, () -> x.waitingCount());
        CHECK.due("moveCount()", 0, () -> x.moveCount());
        CHECK.due("load(0)", NO_INDEX, () -> x.load(0));
        CHECK.due("state(0)", NO_INDEX, () -> x.state(0));
        CHECK.due("movedRequest(0)", NO_INDEX, () -> x.movedRequest(0));
        CHECK.due("setLimits(5, 20)", 0, () -> x.setLimits(5, 20));
        CHECK.due("setGroup(3, 0, 10)", 0, () -> x.setGroup(3, 0, 10));
        CHECK.due("digest(), still as at first", 43L * 31 * 31 * 31, () -> x.digest());
        MatchingService filled = withForty();
        CHECK.due("arrivedCount() of another", 40, () -> filled.arrivedCount());
        CHECK.due("arrivedCount() beside it", 0, () -> x.arrivedCount());
        CHECK.due("resourceCount() beside it", 0, () -> x.resourceCount());
    }

    // ---- promises 2 and 3

    private void changesOfResources() {
        addResource();
        setCapacity();
        setCapacityRefuses();
    }

    private void addResource() {
        sentences.ofPromise(2, "Adds a resource, and makes a run.");
        MatchingService x = withTwoMoves();
        x.addResource(4);
        stands("as before, for nobody accepts the new one", "1 2 0", x);
        CHECK.due("moveCount()", 0, () -> x.moveCount());
        MatchingService waiting = withResources(0);
        arriveAll(waiting, 0, 0b1, 0b0);
        waiting.addResource(4);
        stands("those that wait do not accept the new one", "w w", waiting);

        sentences.ofPromise(2, "- `capacity`: its capacity");
        for (int capacity = 0; capacity <= 4; capacity++) {
            MatchingService y = withResources(capacity);
            long due = digestOf(1, 0, capacity, 0, 0);
            CHECK.due("digest() with capacity " + capacity, due, () -> y.digest());
        }

        sentences.ofPromise(2, "Returns the number of the resource.");
        MatchingService z = new MatchingService();
        CHECK.due("addResource(0), the first", 0, () -> z.addResource(0));
        for (int number = 1; number < 11; number++) {
            z.addResource(4);
        }
        CHECK.due("addResource(4), the last", 11, () -> z.addResource(4));

        sentences.ofPromise(2, "Throws `IllegalArgumentException` if capacity is not 0 to 4");
        for (int capacity : new int[] {-1, 5, Integer.MIN_VALUE, Integer.MAX_VALUE}) {
            CHECK.due("capacity " + capacity, WRONG_ARGUMENT, () -> new MatchingService().addResource(capacity));
            CHECK.due("capacity " + capacity + ", the 13th", WRONG_ARGUMENT, () -> z.addResource(capacity));
        }

        sentences.ofPromise(2, "Throws `IllegalStateException` if there are 12 resources");
        for (int capacity = 0; capacity <= 4; capacity++) {
            int allowed = capacity;
            CHECK.due("capacity " + allowed + ", the 13th", WRONG_STATE, () -> z.addResource(allowed));
        }
        CHECK.due("resourceCount()", 12, () -> z.resourceCount());
    }

    private void setCapacity() {
        sentences.ofPromise(3, "Sets a capacity. If more requests are assigned to the resource than it allows, those "
                + "with the greatest numbers are put back. Then makes a run.");
        MatchingService x = withResources(4);
        arriveMany(x, 5, 0, 1);
        x.setCapacity(0, 3);
        stands("one more than allowed", "0 0 0 w w", x);
        x.setCapacity(0, 3);
        stands("as many as allowed", "0 0 0 w w", x);
        x.setCapacity(0, 4);
        stands("fewer than allowed: the run places one", "0 0 0 0 w", x);
        x.setCapacity(0, 0);
        stands("none allowed", "w w w w w", x);
        x.setCapacity(0, 1);
        stands("one allowed", "0 w w w w", x);

        MatchingService late = withResources(4, 4);
        arriveAll(late, 0, 0b10, 0b01, 0b01);
        late.setAccepts(0, 0b01);
        arriveAll(late, 1, 0b10);
        late.setCapacity(0, 2);
        stands("the greatest number, not the one assigned last or of another resource", "0 0 w 1", late);

        sentences.ofPromise(3, "- `resource`: the resource");
        MatchingService y = withTwelve(0);
        for (int resource : new int[] {0, 11}) {
            int request = y.arrive(0, 1 << resource);
            CHECK.due("setCapacity(" + resource + ", 1)", 0, () -> y.setCapacity(resource, 1));
            CHECK.due("resourceOf", resource, () -> y.resourceOf(request));
        }
        CHECK.due("load(1)", 0, () -> y.load(1));

        sentences.ofPromise(3, "- `capacity`: the new capacity");
        for (int capacity = 0; capacity <= 4; capacity++) {
            MatchingService z = withResources(4 - capacity);
            z.setCapacity(0, capacity);
            long due = digestOf(1, 0, capacity, 0, 0);
            CHECK.due("digest() with capacity " + capacity, due, () -> z.digest());
        }
    }

    private void setCapacityRefuses() {
        sentences.ofPromise(3, "Returns how many requests were put back (before the run).");
        MatchingService x = withResources(4, 1);
        arriveMany(x, 3, 0, 0b01);
        arriveAll(x, 0, 0b11);
        CHECK.due("setCapacity(0, 4), all stay", 0, () -> x.setCapacity(0, 4));
        CHECK.due("setCapacity(0, 3), one goes and is placed by the run", 1, () -> x.setCapacity(0, 3));
        stands("placed by the run", "0 0 0 1", x);
        CHECK.due("setCapacity(0, 0), all go", 3, () -> x.setCapacity(0, 0));
        CHECK.due("setCapacity(0, 4), three are placed", 0, () -> x.setCapacity(0, 4));
        x.setAccepts(3, 0b01);
        CHECK.due("setCapacity(0, 0), the greatest number", 4, () -> x.setCapacity(0, 0));

        sentences.ofPromise(3, "Throws `IndexOutOfBoundsException` if there is no such resource");
        outside("without a resource, setCapacity", 0, new MatchingService(), (y, index) -> y.setCapacity(index, 0));
        outside("setCapacity", 2, x, (y, index) -> y.setCapacity(index, 4));
        outside("with a wrong capacity, setCapacity", 2, x, (y, index) -> y.setCapacity(index, 5));
        outside("of twelve, setCapacity", 12, withTwelve(1), (y, index) -> y.setCapacity(index, -1));

        sentences.ofPromise(3, "Throws `IllegalArgumentException` if capacity is not 0 to 4");
        for (int capacity : new int[] {-1, 5, Integer.MIN_VALUE, Integer.MAX_VALUE}) {
            CHECK.due("capacity " + capacity, WRONG_ARGUMENT, () -> x.setCapacity(1, capacity));
        }
    }

    // ---- promises 4 and 5

    private void changesOfGroupsAndLimits() {
        setGroup();
        setGroupReturns();
        setGroupRefuses();
        setLimits();
    }

    private void setGroup() {
        sentences.ofPromise(4, "Sets the quota and the weight of a group. If more of its requests are assigned than "
                + "the quota says, those with the greatest numbers are put back. Then makes a run.");
        MatchingService x = withResources(4, 4);
        arriveAll(x, 1, 0b10, 0b01, 0b01);
        arriveAll(x, 2, 0b01);
        x.setAccepts(0, 0b01);
        x.setGroup(1, 3, 1);
        stands("as many as the quota", "0 0 0 0", x);
        x.setGroup(1, 2, 1);
        stands("one more than the quota", "0 0 w 0", x);
        x.setGroup(1, 0, 1);
        stands("quota 0, another group's stay", "w w w 0", x);
        x.setGroup(1, 40, 1);
        stands("quota 40: the run places all", "0 0 0 0", x);

        sentences.ofPromise(4, "- `group`: the group");
        for (int group : new int[] {0, 3}) {
            MatchingService y = withForty();
            y.setGroup(group, 0, 10);
            CHECK.due("assignedOf(" + group + ") at quota 0", 0, () -> y.assignedOf(group));
            CHECK.due("assignedCount()", 30, () -> y.assignedCount());
        }

        sentences.ofPromise(4, "- `quota`: the new quota");
        MatchingService y = withTwelve(4);
        arriveMany(y, 40, 3, ALL_TWELVE);
        for (int quota : new int[] {0, 1, 39, 40, 39, 0, 40}) {
            y.setGroup(3, quota, 1);
            CHECK.due("assignedOf(3) at quota " + quota, quota, () -> y.assignedOf(3));
        }

        sentences.ofPromise(4, "- `weight`: the new weight");
        MatchingService z = withForty();
        z.setGroup(0, 0, 1);
        z.setGroup(1, 0, 1);
        for (int weight = 1; weight <= 10; weight++) {
            double share = 10.0 / weight;
            double due = (share + 10) * (share + 10) / (4 * (share * share + 100));
            z.setGroup(2, 40, weight);
            CHECK.due("fairness() at weight " + weight, due, () -> z.fairness());
        }
    }

    private void setGroupReturns() {
        sentences.ofPromise(4, "Returns how many requests were put back (before the run).");
        MatchingService x = withTwelve(4);
        arriveMany(x, 40, 2, ALL_TWELVE);
        CHECK.due("setGroup(2, 40, 1), all stay", 0, () -> x.setGroup(2, 40, 1));
        CHECK.due("setGroup(2, 39, 1), one goes", 1, () -> x.setGroup(2, 39, 1));
        CHECK.due("state(39)", 0, () -> x.state(39));
        CHECK.due("setGroup(2, 39, 10), as many as the quota", 0, () -> x.setGroup(2, 39, 10));
        CHECK.due("setGroup(2, 40, 1), one is placed", 0, () -> x.setGroup(2, 40, 1));
        CHECK.due("setGroup(2, 0, 1), all go", 40, () -> x.setGroup(2, 0, 1));
        CHECK.due("setGroup(2, 0, 1), none is assigned", 0, () -> x.setGroup(2, 0, 1));

        MatchingService y = withResources(1, 1);
        arriveAll(y, 0, 0b10, 0b10);
        y.setAccepts(0, 0b11);
        arriveAll(y, 0, 0b01);
        stands("two assigned, one waits", "0 1 w", y);
        CHECK.due("setGroup(0, 1, 1)", 1, () -> y.setGroup(0, 1, 1));
        stands("one put back", "0 w w", y);
    }

    private void setGroupRefuses() {
        sentences.ofPromise(4, "Throws `IndexOutOfBoundsException` if there is no such group");
        outside("setGroup", 4, withForty(), (x, index) -> x.setGroup(index, 0, 1));
        outside("with a wrong quota and weight, setGroup", 4, withForty(), (x, index) -> x.setGroup(index, 41, 0));

        sentences.ofPromise(4, "Throws `IllegalArgumentException` if quota is not 0 to 40, or weight is not 1 to 10");
        MatchingService x = withResources(4);
        for (int group = 0; group <= 3; group++) {
            int number = group;
            for (int quota : new int[] {-1, 41, Integer.MIN_VALUE, Integer.MAX_VALUE}) {
                CHECK.due("quota " + quota, WRONG_ARGUMENT, () -> x.setGroup(number, quota, 1));
            }
            for (int weight : new int[] {0, -1, 11, Integer.MIN_VALUE, Integer.MAX_VALUE}) {
                CHECK.due("weight " + weight, WRONG_ARGUMENT, () -> x.setGroup(number, 40, weight));
            }
            CHECK.due("both", WRONG_ARGUMENT, () -> x.setGroup(number, 41, 11));
            CHECK.due("the smallest ones", 0, () -> x.setGroup(number, 0, 1));
            CHECK.due("the greatest ones", 0, () -> x.setGroup(number, 40, 10));
        }
    }

    private void setLimits() {
        sentences.ofPromise(5, "Sets both limits, and makes a run.");
        MatchingService x = chain(5);
        x.setLimits(0, 0);
        x.arrive(0, 0b1);
        x.setLimits(5, 0);
        stands("the move limit is too small", "0 1 2 3 4 w", x);
        x.setLimits(4, 20);
        stands("the path limit is too small", "0 1 2 3 4 w", x);
        x.setLimits(5, 1);
        stands("the run places it", "1 2 3 4 5 0", x);

        sentences.ofPromise(5, "- `path`: the path limit");
        sentences.ofPromise(5, "- `move`: the move limit");
        for (int path = 0; path <= 5; path++) {
            MatchingService y = chain(6);
            y.setLimits(0, 0);
            y.arrive(0, 1 << (6 - path));
            y.arrive(0, 1 << (5 - path));
            int limit = path;
            CHECK.due("setLimits(" + limit + ", 0)", 0, () -> y.setLimits(limit, 0));
            CHECK.due("setLimits(" + limit + ", 20)", limit == 0 ? 0 : 1, () -> y.setLimits(limit, 20));
        }

        sentences.ofPromise(5, "Returns how many requests were placed in the run.");
        CHECK.due("without a request", 0, () -> new MatchingService().setLimits(0, 0));
        MatchingService pairs = sixPairs();
        CHECK.due("setLimits(0, 20)", 0, () -> pairs.setLimits(0, 20));
        CHECK.due("setLimits(1, 1), where six can move", 6, () -> pairs.setLimits(1, 1));
        CHECK.due("moveCount()", 6, () -> pairs.moveCount());

        sentences.ofPromise(5, "Throws `IllegalArgumentException` if path is not 0 to 5, or move is not 0 to 20");
        for (int path : new int[] {-1, 6, Integer.MIN_VALUE, Integer.MAX_VALUE}) {
            CHECK.due("path " + path, WRONG_ARGUMENT, () -> pairs.setLimits(path, 3));
        }
        for (int move : new int[] {-1, 21, Integer.MIN_VALUE, Integer.MAX_VALUE}) {
            CHECK.due("move " + move, WRONG_ARGUMENT, () -> pairs.setLimits(2, move));
        }
        CHECK.due("both", WRONG_ARGUMENT, () -> pairs.setLimits(6, 21));
        CHECK.due("the smallest ones", 0, () -> pairs.setLimits(0, 0));
        CHECK.due("the greatest ones", 0, () -> pairs.setLimits(5, 20));
    }

    /** Requests 0 to 5 could each give its resource, an even one, to one of the six that wait. */
    private static MatchingService sixPairs() {
        MatchingService x = withTwelve(1);
        x.setLimits(0, 0);
        for (int pair = 0; pair < 6; pair++) {
            x.arrive(0, 0b11 << 2 * pair);
        }
        for (int pair = 0; pair < 6; pair++) {
            x.arrive(1, 0b1 << 2 * pair);
        }
        return x;
    }

    // ---- promises 6 to 8

    private void changesOfRequests() {
        arrive();
        arriveRefuses();
        depart();
        setAccepts();
        setAcceptsReturns();
        setAcceptsRefuses();
    }

    private void arrive() {
        sentences.ofPromise(6, "A request arrives. If it can be placed, it is placed; otherwise it waits. "
                + "There is no run.");
        MatchingService x = withResources(1);
        arriveAll(x, 0, 1, 1, 0);
        stands("the last place, none left, nothing accepted", "0 w w", x);
        MatchingService none = new MatchingService();
        none.arrive(0, 0);
        stands("no resource", "w", none);
        MatchingService full = withTwelve(1);
        arriveMany(full, 13, 0, ALL_TWELVE);
        stands("twelve resources that are full", "0 1 2 3 4 5 6 7 8 9 10 11 w", full);

        sentences.ofPromise(6, "- `group`: its group");
        for (int group : new int[] {0, 3}) {
            MatchingService y = withResources(1);
            y.arrive(group, 1);
            CHECK.due("assignedOf(" + group + ")", 1, () -> y.assignedOf(group));
        }

        sentences.ofPromise(6, "- `mask`: the mask of the resources that it accepts");
        MatchingService y = withTwelve(1);
        arriveAll(y, 0, 0, 1, 1 << 11, ALL_TWELVE, 1);
        stands("the smallest and the greatest masks", "w 0 11 1 w", y);

        sentences.ofPromise(6, "Returns the number of the request.");
        MatchingService z = withResources(1);
        CHECK.due("the first", 0, () -> z.arrive(0, 1));
        z.depart(0);
        CHECK.due("the second, though the first has departed", 1, () -> z.arrive(0, 1));
        arriveMany(z, 37, 0, 1);
        CHECK.due("the last", 39, () -> z.arrive(0, 1));
    }

    private void arriveRefuses() {
        MatchingService forty = withForty();
        sentences.ofPromise(6, "Throws `IndexOutOfBoundsException` if there is no such group");
        outside("arrive", 4, withResources(1), (x, index) -> x.arrive(index, 1));
        outside("with a wrong mask, arrive", 4, withResources(1), (x, index) -> x.arrive(index, 2));
        outside("the 41st, arrive", 4, forty, (x, index) -> x.arrive(index, 1));
        outside("with a wrong mask, the 41st, arrive", 4, forty, (x, index) -> x.arrive(index, -1));

        sentences.ofPromise(6, "Throws `IllegalArgumentException` if mask is negative, or has a bit of a resource "
                + "that does not exist");
        for (int resources = 0; resources <= 12; resources++) {
            MatchingService x = new MatchingService();
            for (int resource = 0; resource < resources; resource++) {
                x.addResource(1);
            }
            int none = 1 << resources;
            CHECK.due("the least mask too great, " + none, WRONG_ARGUMENT, () -> x.arrive(0, none));
            CHECK.due("with bits that do exist, " + (2 * none - 1), WRONG_ARGUMENT, () -> x.arrive(0, 2 * none - 1));
            CHECK.due("the greatest mask, " + (none - 1), 0, () -> x.arrive(0, none - 1));
        }
        MatchingService x = withTwelve(1);
        for (int mask : new int[] {-1, -4096, -2048, Integer.MIN_VALUE, Integer.MAX_VALUE, 1 << 30, Integer.MIN_VALUE + 1}) {
            CHECK.due("mask " + mask, WRONG_ARGUMENT, () -> x.arrive(0, mask));
            CHECK.due("mask " + mask + ", the 41st", WRONG_ARGUMENT, () -> forty.arrive(0, mask));
        }

        sentences.ofPromise(6, "Throws `IllegalStateException` if 40 requests have arrived");
        CHECK.due("the 41st", WRONG_STATE, () -> forty.arrive(0, 1));
        CHECK.due("the 41st, with the mask 0", WRONG_STATE, () -> forty.arrive(3, 0));
        departAll(forty);
        CHECK.due("the 41st, when all have departed", WRONG_STATE, () -> forty.arrive(0, 1));
        MatchingService almost = new MatchingService();
        arriveMany(almost, 39, 0, 0);
        CHECK.due("the 40th", 39, () -> almost.arrive(0, 0));
        CHECK.due("the 41st", WRONG_STATE, () -> almost.arrive(0, 0));
    }

    private void depart() {
        sentences.ofPromise(7, "A request departs. Then makes a run.");
        MatchingService x = withResources(1);
        arriveAll(x, 0, 1, 1, 1);
        x.depart(1);
        stands("one that waited", "0 d w", x);
        x.depart(0);
        stands("the one that was assigned", "d d 0", x);
        x.depart(2);
        stands("the last one", "d d d", x);
        CHECK.due("load(0)", 0, () -> x.load(0));
        CHECK.due("assignedOf(0)", 0, () -> x.assignedOf(0));
        CHECK.due("waitingCount()", 0, () -> x.waitingCount());

        sentences.ofPromise(7, "- `request`: the request");
        MatchingService y = withForty();
        y.depart(0);
        y.depart(39);
        for (int request : new int[] {0, 1, 38, 39}) {
            CHECK.due("state(" + request + ")", request % 39 == 0 ? 2 : 1, () -> y.state(request));
        }

        sentences.ofPromise(7, "Returns how many requests were placed in the run.");
        MatchingService z = withResources(1, 1);
        z.setGroup(0, 1, 1);
        arriveAll(z, 0, 0b01, 0b10);
        arriveAll(z, 1, 0b01, 0b01);
        CHECK.due("one that waited", 0, () -> z.depart(3));
        CHECK.due("one that left a place and a quota, and two take them", 2, () -> z.depart(0));
        CHECK.due("one whose place nobody takes", 0, () -> z.depart(1));
        arriveAll(z, 1, 0b01);
        CHECK.due("one whose place another takes", 1, () -> z.depart(2));

        sentences.ofPromise(7, "Throws `IndexOutOfBoundsException` if no request with this number has arrived");
        outside("without a request, depart", 0, withResources(1), (u, index) -> u.depart(index));
        outside("of three, depart", 3, withEachState(), (u, index) -> u.depart(index));
        outside("of forty, depart", 40, y, (u, index) -> u.depart(index));

        sentences.ofPromise(7, "Throws `java` .util.NoSuchElementException if it has departed already");
        CHECK.due("depart(0) again", NO_ELEMENT, () -> y.depart(0));
        CHECK.due("depart(39) again", NO_ELEMENT, () -> y.depart(39));
        CHECK.due("depart(38)", 0, () -> y.depart(38));
        CHECK.due("depart(38) again", NO_ELEMENT, () -> y.depart(38));
    }

    private void setAccepts() {
        sentences.ofPromise(8, "Sets which resources a request accepts. If it is assigned to one that it does not "
                + "accept any more, it is put back. Then makes a run.");
        MatchingService x = withResources(1, 1);
        arriveAll(x, 0, 0b10, 0b10);
        x.setAccepts(0, 0b11);
        stands("it stays, though a smaller one is free; nobody moves while none is to be placed", "0 1", x);
        x.setAccepts(0, 0b01);
        stands("it accepts its own alone", "0 1", x);
        x.setAccepts(0, 0b00);
        stands("it accepts nothing any more", "w 1", x);
        x.setAccepts(0, 0b10);
        stands("it accepts one that is full", "w 1", x);
        x.setAccepts(1, 0b01);
        stands("both find another one in the run", "1 0", x);
        CHECK.due("movesOf(1), put back and placed", 0, () -> x.movesOf(1));

        MatchingService stays = withResources(1, 1);
        arriveAll(stays, 0, 0b10);
        stays.setAccepts(0, 0b11);
        stands("it stays", "1", stays);

        sentences.ofPromise(8, "- `request`: the request");
        MatchingService y = withForty();
        y.setAccepts(0, 1 << 11);
        y.setAccepts(39, 1 << 11);
        CHECK.due("resourceOf(0)", 11, () -> y.resourceOf(0));
        CHECK.due("resourceOf(39)", 11, () -> y.resourceOf(39));
        CHECK.due("resourceOf(38)", 9, () -> y.resourceOf(38));

        sentences.ofPromise(8, "- `mask`: the new mask");
        MatchingService z = withTwelve(1);
        z.arrive(0, 0);
        for (int resource = 0; resource < 12; resource++) {
            int due = resource;
            z.setAccepts(0, 1 << due);
            CHECK.due("resourceOf(0), with 2^" + due, due, () -> z.resourceOf(0));
        }
        z.setAccepts(0, 0);
        z.setAccepts(0, ALL_TWELVE);
        CHECK.due("resourceOf(0), with all", 0, () -> z.resourceOf(0));
    }

    private void setAcceptsReturns() {
        sentences.ofPromise(8, "Returns whether the request is assigned afterwards.");
        MatchingService x = withResources(1, 1);
        arriveAll(x, 0, 0b01, 0b01);
        CHECK.due("assigned before, and after", true, () -> x.setAccepts(0, 0b01));
        CHECK.due("assigned before, and after, elsewhere", true, () -> x.setAccepts(0, 0b10));
        stands("another one took its place", "1 0", x);
        CHECK.due("assigned before, not after", false, () -> x.setAccepts(0, 0b00));
        CHECK.due("not assigned before or after", false, () -> x.setAccepts(0, 0b01));
        CHECK.due("not assigned before, but after", true, () -> x.setAccepts(0, 0b11));

        MatchingService quota = withResources(4, 1);
        arriveAll(quota, 0, 0b10, 0b01);
        quota.setGroup(0, 1, 1);
        stands("the quota is used up", "1 w", quota);
        CHECK.due("not assigned, for the quota", false, () -> quota.setAccepts(1, 0b11));
        CHECK.due("assigned after it was put back", true, () -> quota.setAccepts(0, 0b01));
        stands("the smaller number first", "0 w", quota);
    }

    private void setAcceptsRefuses() {
        sentences.ofPromise(8, "Throws `IndexOutOfBoundsException` if no request with this number has arrived");
        outside("without a request, setAccepts", 0, withResources(1), (x, index) -> x.setAccepts(index, 1));
        outside("of three, setAccepts", 3, withEachState(), (x, index) -> x.setAccepts(index, 3));
        outside("with a wrong mask, setAccepts", 3, withEachState(), (x, index) -> x.setAccepts(index, 4));
        outside("of forty, setAccepts", 40, withForty(), (x, index) -> x.setAccepts(index, -1));

        sentences.ofPromise(8, "Throws `java` .util.NoSuchElementException if it has departed");
        MatchingService x = withEachState();
        CHECK.due("setAccepts(2, 3)", NO_ELEMENT, () -> x.setAccepts(2, 0b11));
        CHECK.due("setAccepts(2, 0)", NO_ELEMENT, () -> x.setAccepts(2, 0));
        CHECK.due("with a wrong mask, setAccepts(2, 4)", NO_ELEMENT, () -> x.setAccepts(2, 0b100));
        CHECK.due("with a wrong mask, setAccepts(2, -1)", NO_ELEMENT, () -> x.setAccepts(2, -1));

        sentences.ofPromise(8, "Throws `IllegalArgumentException` if mask is negative, or has a bit of a resource "
                + "that does not exist");
        for (int mask : new int[] {-1, 0b100, 0b111, -4, Integer.MIN_VALUE, Integer.MAX_VALUE, 1 << 30}) {
            CHECK.due("of one that waits, mask " + mask, WRONG_ARGUMENT, () -> x.setAccepts(0, mask));
            CHECK.due("of one that is assigned, mask " + mask, WRONG_ARGUMENT, () -> x.setAccepts(1, mask));
        }
        CHECK.due("the greatest mask", true, () -> x.setAccepts(1, 0b11));
        CHECK.due("the smallest mask", false, () -> x.setAccepts(1, 0b00));
        MatchingService empty = new MatchingService();
        empty.arrive(0, 0);
        CHECK.due("without a resource, mask 1", WRONG_ARGUMENT, () -> empty.setAccepts(0, 1));
        CHECK.due("without a resource, mask 0", false, () -> empty.setAccepts(0, 0));
        MatchingService twelve = withForty();
        CHECK.due("of twelve, mask 4096", WRONG_ARGUMENT, () -> twelve.setAccepts(39, 4096));
        CHECK.due("of twelve, mask 4095", true, () -> twelve.setAccepts(39, ALL_TWELVE));
    }

    // ---- promises 9 to 17

    private void whatIs() {
        counts();
        assignedOf();
        load();
        state();
        resourceOf();
        movesOf();
    }

    private void counts() {
        MatchingService empty = new MatchingService();
        MatchingService forty = withForty();
        sentences.ofPromise(9, "Returns the number of resources.");
        CHECK.due("none", 0, () -> empty.resourceCount());
        CHECK.due("one, without capacity", 1, () -> withResources(0).resourceCount());
        CHECK.due("twelve", 12, () -> forty.resourceCount());

        sentences.ofPromise(10, "Returns how many requests have arrived.");
        CHECK.due("none", 0, () -> empty.arrivedCount());
        CHECK.due("three, one of each state", 3, () -> withEachState().arrivedCount());
        CHECK.due("forty", 40, () -> forty.arrivedCount());

        sentences.ofPromise(11, "Returns how many requests are assigned.");
        CHECK.due("none", 0, () -> empty.assignedCount());
        CHECK.due("one of three", 1, () -> withEachState().assignedCount());
        CHECK.due("forty", 40, () -> forty.assignedCount());

        sentences.ofPromise(12, "Returns how many requests are waiting.");
        CHECK.due("none", 0, () -> empty.waitingCount());
        CHECK.due("one of three", 1, () -> withEachState().waitingCount());
        CHECK.due("none of forty", 0, () -> forty.waitingCount());
        for (int group = 0; group <= 3; group++) {
            forty.setGroup(group, 0, 1);
        }
        CHECK.due("all of forty", 40, () -> forty.waitingCount());
        CHECK.due("assignedCount() then", 0, () -> forty.assignedCount());
        departAll(forty);
        CHECK.due("none, when all have departed", 0, () -> forty.waitingCount());
        CHECK.due("arrivedCount() then", 40, () -> forty.arrivedCount());
    }

    private void assignedOf() {
        MatchingService forty = withForty();
        sentences.ofPromise(13, "- `group`: the group");
        forty.depart(0);
        forty.depart(4);
        forty.depart(3);
        CHECK.due("assignedOf(0)", 8, () -> forty.assignedOf(0));
        CHECK.due("assignedOf(1)", 10, () -> forty.assignedOf(1));
        CHECK.due("assignedOf(3)", 9, () -> forty.assignedOf(3));

        sentences.ofPromise(13, "Returns how many of its requests are assigned.");
        MatchingService x = withResources(1);
        CHECK.due("none", 0, () -> x.assignedOf(2));
        arriveAll(x, 2, 1, 1);
        CHECK.due("one of two", 1, () -> x.assignedOf(2));
        MatchingService all = withTwelve(4);
        arriveMany(all, 40, 3, ALL_TWELVE);
        CHECK.due("forty", 40, () -> all.assignedOf(3));

        sentences.ofPromise(13, "Throws `IndexOutOfBoundsException` if there is no such group");
        outside("assignedOf", 4, forty, (y, index) -> y.assignedOf(index));
        outside("of a new one, assignedOf", 4, new MatchingService(), (y, index) -> y.assignedOf(index));
    }

    private void load() {
        MatchingService x = withTwelve(4);
        arriveMany(x, 5, 0, 1);
        arriveMany(x, 3, 1, 1 << 11);
        sentences.ofPromise(14, "- `resource`: the resource");
        CHECK.due("load(0)", 4, () -> x.load(0));
        CHECK.due("load(1)", 0, () -> x.load(1));
        CHECK.due("load(11)", 3, () -> x.load(11));

        sentences.ofPromise(14, "Returns how many requests are assigned to it.");
        for (int capacity = 0; capacity <= 4; capacity++) {
            int due = capacity;
            x.setCapacity(0, due);
            CHECK.due("load(0) at capacity " + due, due, () -> x.load(0));
        }

        sentences.ofPromise(14, "Throws `IndexOutOfBoundsException` if there is no such resource");
        outside("without a resource, load", 0, new MatchingService(), (y, index) -> y.load(index));
        outside("of one, load", 1, withResources(1), (y, index) -> y.load(index));
        outside("of twelve, load", 12, x, (y, index) -> y.load(index));
    }

    private void state() {
        MatchingService forty = withForty();
        sentences.ofPromise(15, "- `request`: the request");
        forty.depart(0);
        forty.setAccepts(39, 0);
        CHECK.due("state(0)", 2, () -> forty.state(0));
        CHECK.due("state(1)", 1, () -> forty.state(1));
        CHECK.due("state(39)", 0, () -> forty.state(39));

        sentences.ofPromise(15, "Returns 0 if it is waiting, 1 if it is assigned, 2 if it has departed.");
        MatchingService x = withResources(1);
        x.arrive(0, 1);
        CHECK.due("assigned", 1, () -> x.state(0));
        x.setCapacity(0, 0);
        CHECK.due("waiting", 0, () -> x.state(0));
        x.setCapacity(0, 1);
        CHECK.due("assigned again", 1, () -> x.state(0));
        x.depart(0);
        CHECK.due("departed", 2, () -> x.state(0));
        x.arrive(0, 0);
        x.depart(1);
        CHECK.due("departed, and never assigned", 2, () -> x.state(1));

        sentences.ofPromise(15, "Throws `IndexOutOfBoundsException` if no request with this number has arrived");
        outside("without a request, state", 0, withResources(1), (y, index) -> y.state(index));
        outside("of three, state", 3, withEachState(), (y, index) -> y.state(index));
        outside("of forty, state", 40, forty, (y, index) -> y.state(index));
    }

    private void resourceOf() {
        MatchingService forty = withForty();
        sentences.ofPromise(16, "- `request`: the request");
        CHECK.due("resourceOf(0)", 0, () -> forty.resourceOf(0));
        CHECK.due("resourceOf(39)", 9, () -> forty.resourceOf(39));

        sentences.ofPromise(16, "Returns the resource to which it is assigned.");
        forty.setAccepts(0, 1 << 11);
        CHECK.due("the greatest", 11, () -> forty.resourceOf(0));
        forty.setAccepts(39, 1);
        CHECK.due("the smallest", 0, () -> forty.resourceOf(39));
        CHECK.due("of one that was moved", 2, () -> withTwoMoves().resourceOf(1));

        sentences.ofPromise(16, "Throws `IndexOutOfBoundsException` if no request with this number has arrived");
        outside("without a request, resourceOf", 0, withResources(1), (y, index) -> y.resourceOf(index));
        outside("of three, resourceOf", 3, withEachState(), (y, index) -> y.resourceOf(index));
        outside("of forty, resourceOf", 40, forty, (y, index) -> y.resourceOf(index));

        sentences.ofPromise(16, "Throws `java` .util.NoSuchElementException if it is not assigned");
        CHECK.due("one that never was", NO_ELEMENT, () -> withEachState().resourceOf(0));
        CHECK.due("one that is", 1, () -> withEachState().resourceOf(1));
        CHECK.due("one that has departed", NO_ELEMENT, () -> withEachState().resourceOf(2));
        forty.setAccepts(0, 0);
        CHECK.due("one that was put back", NO_ELEMENT, () -> forty.resourceOf(0));
        forty.depart(39);
        CHECK.due("one that was assigned and has departed", NO_ELEMENT, () -> forty.resourceOf(39));
    }

    private void movesOf() {
        MatchingService forty = withForty();
        sentences.ofPromise(17, "- `request`: the request");
        CHECK.due("movesOf(0)", 0, () -> forty.movesOf(0));
        CHECK.due("movesOf(39)", 0, () -> forty.movesOf(39));
        CHECK.due("movesOf(0) of a path", 1, () -> withTwoMoves().movesOf(0));
        CHECK.due("movesOf(1) of a path", 1, () -> withTwoMoves().movesOf(1));

        sentences.ofPromise(17, "Returns how often it has been moved (placing it does not count).");
        MatchingService x = withResources(1, 1);
        x.setLimits(1, 20);
        arriveAll(x, 0, 0b11, 0b01);
        CHECK.due("of one that was placed with a move of another", 0, () -> x.movesOf(1));
        for (int moves = 1; moves <= 20; moves++) {
            int due = moves;
            CHECK.due("after so many", due, () -> x.movesOf(0));
            x.setAccepts(1, 1 << x.resourceOf(0));
        }
        CHECK.due("at the greatest limit", 20, () -> x.movesOf(0));
        stands("at the greatest limit: the other one waits", "0 w", x);
        x.setAccepts(0, 0);
        x.setAccepts(0, 0b11);
        CHECK.due("put back and placed again", 20, () -> x.movesOf(0));
        x.depart(0);
        CHECK.due("departed", 20, () -> x.movesOf(0));

        sentences.ofPromise(17, "Throws `IndexOutOfBoundsException` if no request with this number has arrived");
        outside("without a request, movesOf", 0, withResources(1), (y, index) -> y.movesOf(index));
        outside("of two, movesOf", 2, x, (y, index) -> y.movesOf(index));
        outside("of forty, movesOf", 40, forty, (y, index) -> y.movesOf(index));
    }

    // ---- promises 18 to 20

    private void logOfMoves() {
        MatchingService two = withTwoMoves();
        MatchingService none = chain(2);
        MatchingService many = sixPairs();
        many.setLimits(1, 1);

        sentences.ofPromise(18, "Returns the number of moves in the log.");
        CHECK.due("of a new one", 0, () -> new MatchingService().moveCount());
        CHECK.due("of a change without a move", 0, () -> none.moveCount());
        CHECK.due("two", 2, () -> two.moveCount());
        CHECK.due("six, of six requests placed in one run", 6, () -> many.moveCount());

        sentences.ofPromise(19, "- `index`: an index in the log, from 0");
        sentences.ofPromise(19, "Returns the request that was moved.");
        CHECK.due("the first of two", 0, () -> two.movedRequest(0));
        CHECK.due("the last of two", 1, () -> two.movedRequest(1));
        CHECK.due("the first of six", 0, () -> many.movedRequest(0));
        CHECK.due("the last of six", 5, () -> many.movedRequest(5));

        sentences.ofPromise(19, "Throws `IndexOutOfBoundsException` if there is no such index");
        outside("in the empty log of a new one, movedRequest", 0, new MatchingService(), (x, i) -> x.movedRequest(i));
        outside("in the empty log, movedRequest", 0, none, (x, i) -> x.movedRequest(i));
        outside("movedRequest", 2, two, (x, i) -> x.movedRequest(i));
        outside("movedRequest", 6, many, (x, i) -> x.movedRequest(i));

        sentences.ofPromise(20, "- `index`: an index in the log, from 0");
        sentences.ofPromise(20, "Returns the resource to which it was moved.");
        CHECK.due("the first of two", 1, () -> two.movedTo(0));
        CHECK.due("the last of two", 2, () -> two.movedTo(1));
        CHECK.due("the first of six", 1, () -> many.movedTo(0));
        CHECK.due("the last of six", 11, () -> many.movedTo(5));

        sentences.ofPromise(20, "Throws `IndexOutOfBoundsException` if there is no such index");
        outside("in the empty log of a new one, movedTo", 0, new MatchingService(), (x, i) -> x.movedTo(i));
        outside("in the empty log, movedTo", 0, none, (x, i) -> x.movedTo(i));
        outside("movedTo", 2, two, (x, i) -> x.movedTo(i));
        outside("movedTo", 6, many, (x, i) -> x.movedTo(i));
        two.setLimits(2, 3);
        outside("in a log that was cleared, movedRequest", 0, two, (x, i) -> x.movedRequest(i));
        outside("in a log that was cleared, movedTo", 0, two, (x, i) -> x.movedTo(i));
    }

    // ---- promises 21 to 23

    private void whatCouldBe() {
        movesNeeded();
        movesNeededRefuses();
        greatestPossible();
        greatestPossibleRegards();
        gainBy();
        gainByOthers();
    }

    private void movesNeeded() {
        sentences.ofPromise(21, "- `request`: the request");
        MatchingService x = withForty();
        x.setAccepts(0, 0);
        x.setGroup(3, 9, 1);
        CHECK.due("movesNeeded(0)", -1, () -> x.movesNeeded(0));
        CHECK.due("movesNeeded(39)", 0, () -> x.movesNeeded(39));

        sentences.ofPromise(21, "Returns how many requests its best path moves (whatever the path limit and the quota "
                + "are); -1 if there is no path.");
        for (int path = 0; path <= 5; path++) {
            MatchingService y = chain(11);
            y.setLimits(path, 1);
            y.setGroup(1, 0, 1);
            y.setGroup(0, 11, 1);
            int limit = path;
            int far = y.arrive(1, 0b1);
            int near = y.arrive(1, 1 << 11);
            int none = y.arrive(1, 0);
            int full = y.arrive(0, 0b1);
            CHECK.due("along twelve, at path limit " + limit + " and quota 0", 11, () -> y.movesNeeded(far));
            CHECK.due("along twelve, at quota 11 that is used up", 11, () -> y.movesNeeded(full));
            CHECK.due("to a free place at quota 0", 0, () -> y.movesNeeded(near));
            CHECK.due("of one that accepts nothing", -1, () -> y.movesNeeded(none));
            y.setLimits(limit, 0);
            CHECK.due("along twelve, when nobody can be moved", -1, () -> y.movesNeeded(far));
            CHECK.due("to a free place, when nobody can be moved", 0, () -> y.movesNeeded(near));
            y.setLimits(limit, 20);
            y.setCapacity(11, 0);
            CHECK.due("along twelve, where none has room", -1, () -> y.movesNeeded(far));
        }
        MatchingService empty = new MatchingService();
        empty.arrive(0, 0);
        CHECK.due("without a resource", -1, () -> empty.movesNeeded(0));
    }

    private void movesNeededRefuses() {
        sentences.ofPromise(21, "Throws `IndexOutOfBoundsException` if no request with this number has arrived");
        outside("without a request, movesNeeded", 0, withResources(1), (y, index) -> y.movesNeeded(index));
        outside("of three, movesNeeded", 3, withEachState(), (y, index) -> y.movesNeeded(index));
        outside("of forty, movesNeeded", 40, withForty(), (y, index) -> y.movesNeeded(index));

        sentences.ofPromise(21, "Throws `java` .util.NoSuchElementException if it is not waiting");
        CHECK.due("one that waits", -1, () -> withEachState().movesNeeded(0));
        CHECK.due("one that is assigned", NO_ELEMENT, () -> withEachState().movesNeeded(1));
        CHECK.due("one that has departed", NO_ELEMENT, () -> withEachState().movesNeeded(2));
    }

    private void greatestPossible() {
        sentences.ofPromise(22, "Returns the greatest number of requests that have not departed and could be assigned "
                + "at the same time, each one to a resource that it accepts, if only capacities and quotas were "
                + "regarded.");
        CHECK.due("of a new one", 0, () -> new MatchingService().greatestPossible());
        CHECK.due("without a request", 0, () -> withTwelve(4).greatestPossible());
        MatchingService noResource = new MatchingService();
        arriveMany(noResource, 40, 0, 0);
        CHECK.due("without a resource", 0, () -> noResource.greatestPossible());
        MatchingService nothing = withTwelve(4);
        arriveMany(nothing, 40, 0, 0);
        CHECK.due("of forty that accept nothing", 0, () -> nothing.greatestPossible());
        MatchingService noPlace = withTwelve(0);
        arriveMany(noPlace, 40, 0, ALL_TWELVE);
        CHECK.due("of forty without a place", 0, () -> noPlace.greatestPossible());
        noPlace.setCapacity(11, 4);
        CHECK.due("of forty at four places", 4, () -> noPlace.greatestPossible());

        MatchingService forty = withForty();
        CHECK.due("of forty", 40, () -> forty.greatestPossible());
        for (int group = 0; group <= 3; group++) {
            forty.setGroup(group, group, 1);
        }
        CHECK.due("of forty at the quotas 0 to 3", 6, () -> forty.greatestPossible());
        forty.setGroup(1, 0, 1);
        forty.setGroup(2, 0, 1);
        forty.setGroup(3, 0, 1);
        CHECK.due("of forty at the quotas 0", 0, () -> forty.greatestPossible());
        forty.setGroup(2, 40, 1);
        departAll(forty);
        CHECK.due("when all have departed", 0, () -> forty.greatestPossible());
    }

    private void greatestPossibleRegards() {
        MatchingService limits = chain(11);
        limits.setLimits(0, 0);
        limits.arrive(0, 0b1);
        CHECK.due("assigned at limits 0", 11, () -> limits.assignedCount());
        CHECK.due("without regard of path and move limit", 12, () -> limits.greatestPossible());
        limits.setGroup(0, 11, 1);
        CHECK.due("with regard of the quota", 11, () -> limits.greatestPossible());
        limits.setGroup(0, 12, 1);
        CHECK.due("at a quota that just suffices", 12, () -> limits.greatestPossible());
        limits.setCapacity(11, 0);
        CHECK.due("with regard of the capacity", 11, () -> limits.greatestPossible());

        MatchingService swapped = withResources(1, 1);
        swapped.setGroup(0, 1, 1);
        arriveAll(swapped, 0, 0b01, 0b10);
        arriveAll(swapped, 1, 0b01);
        CHECK.due("assigned at the quota", 1, () -> swapped.assignedCount());
        CHECK.due("with another one of the group at its quota", 2, () -> swapped.greatestPossible());
        long digest = swapped.digest();
        swapped.greatestPossible();
        CHECK.due("digest() after looking", digest, () -> swapped.digest());
        swapped.depart(1);
        CHECK.due("when the other one has departed", 1, () -> swapped.greatestPossible());
    }

    private void gainBy() {
        sentences.ofPromise(23, "- `request`: the request");
        MatchingService forty = withForty();
        forty.setAccepts(0, 0);
        CHECK.due("gainBy(0)", 1, () -> forty.gainBy(0));
        CHECK.due("gainBy(39)", 0, () -> forty.gainBy(39));
        forty.setAccepts(39, 0);
        CHECK.due("gainBy(39), which accepts nothing", 1, () -> forty.gainBy(39));

        sentences.ofPromise(23, "Returns how much greater greatestPossible() would be if this request accepted all "
                + "resources; 0 if it has departed.");
        MatchingService empty = new MatchingService();
        empty.arrive(0, 0);
        CHECK.due("without a resource", 0, () -> empty.gainBy(0));
        MatchingService x = withResources(0);
        x.arrive(0, 0);
        CHECK.due("without a place", 0, () -> x.gainBy(0));
        x.setCapacity(0, 1);
        CHECK.due("of one that accepts nothing", 1, () -> x.gainBy(0));
        x.setGroup(0, 0, 1);
        CHECK.due("at quota 0", 0, () -> x.gainBy(0));
        x.setGroup(0, 1, 1);
        CHECK.due("at quota 1", 1, () -> x.gainBy(0));
        x.depart(0);
        CHECK.due("of one that has departed, and accepted nothing", 0, () -> x.gainBy(0));

        MatchingService departed = withResources(1, 1);
        arriveAll(departed, 0, 0b01, 0b01);
        CHECK.due("before the other one departs", 1, () -> departed.gainBy(1));
        departed.depart(0);
        CHECK.due("of one that was assigned and has departed", 0, () -> departed.gainBy(0));
        departed.arrive(0, 0b01);
        CHECK.due("of one that has departed, where it could gain", 0, () -> departed.gainBy(0));
        CHECK.due("of one beside it", 1, () -> departed.gainBy(1));
    }

    private void gainByOthers() {
        MatchingService x = withResources(1, 1);
        x.setLimits(0, 0);
        arriveAll(x, 0, 0b01, 0b01);
        CHECK.due("of one that is assigned, and leaves its place to another", 1, () -> x.gainBy(0));
        CHECK.due("of one that waits", 1, () -> x.gainBy(1));
        stands("nothing changes by looking", "0 w", x);
        x.setGroup(0, 1, 1);
        CHECK.due("at a quota that is used up", 0, () -> x.gainBy(1));
        x.setGroup(0, 40, 1);
        x.arrive(0, 0b10);
        CHECK.due("where all resources are full", 0, () -> x.gainBy(1));
        MatchingService all = withResources(1, 1);
        arriveAll(all, 0, 0b11, 0b11);
        CHECK.due("of one that accepts all already", 0, () -> all.gainBy(1));

        sentences.ofPromise(23, "Throws `IndexOutOfBoundsException` if no request with this number has arrived");
        outside("without a request, gainBy", 0, withResources(1), (y, index) -> y.gainBy(index));
        outside("of three, gainBy", 3, withEachState(), (y, index) -> y.gainBy(index));
        outside("of forty, gainBy", 40, withForty(), (y, index) -> y.gainBy(index));
    }

    // ---- promises 24 and 25

    private void fairnessAndDigest() {
        fairnessRounded();
        fairnessOfNone();
        digestWraps();
    }

    private void fairnessRounded() {
        sentences.ofPromise(24, "Computes an index of fairness. For each group, let x be the number of its assigned "
                + "requests divided by its weight, as a double. Let s be the sum of all x, and q the sum of the "
                + "products x * x, both added up in ascending order of the groups, starting with 0. The index is "
                + "s * s / (4 * q), where s * s and 4 * q are computed first. All operations are rounded to the "
                + "nearest double.");
        // Any other order of these sums and products, and any smaller type, answers another number here.
        fairnessIs(0.849311400153022, new int[] {1, 1, 1, 3}, new int[] {7, 10, 6, 10});
        fairnessIs(0.7474576271186443, new int[] {1, 1, 2, 3}, new int[] {10, 3, 3, 10});
        fairnessIs(0.8289911851126347, new int[] {1, 1, 3, 1}, new int[] {10, 3, 10, 7});
        fairnessIs(0.7620126926563915, new int[] {1, 1, 3, 4}, new int[] {9, 10, 10, 10});
        fairnessIs(1.0, new int[] {4, 4, 4, 4}, new int[] {10, 10, 10, 10});
        fairnessIs(1.0, new int[] {1, 2, 3, 4}, new int[] {1, 2, 3, 4});
        fairnessIs(0.25, new int[] {0, 0, 1, 0}, new int[] {1, 1, 10, 1});
        fairnessIs(0.5, new int[] {1, 0, 0, 1}, new int[] {1, 1, 1, 1});
        for (int group = 0; group <= 3; group++) {
            MatchingService x = withTwelve(4);
            arriveMany(x, 40, group, ALL_TWELVE);
            CHECK.due("forty of group " + group + " alone", 0.25, () -> x.fairness());
        }
    }

    private static void fairnessIs(double due, int[] assigned, int[] weights) {
        MatchingService x = withResources(4, 4, 4, 4);
        for (int group = 0; group <= 3; group++) {
            x.setGroup(group, 40, weights[group]);
            arriveMany(x, assigned[group], group, 0b1111);
        }
        CHECK.due("fairness() by weights", due, () -> x.fairness());
    }

    private void fairnessOfNone() {
        sentences.ofPromise(24, "Returns the index; 1 if no request is assigned.");
        MatchingService x = withResources(1);
        CHECK.due("of a new one", 1.0, () -> new MatchingService().fairness());
        CHECK.due("without a request", 1.0, () -> x.fairness());
        arriveAll(x, 0, 0);
        CHECK.due("one waits", 1.0, () -> x.fairness());
        x.setAccepts(0, 1);
        CHECK.due("one is assigned", 0.25, () -> x.fairness());
        x.setGroup(0, 0, 10);
        CHECK.due("it was put back", 1.0, () -> x.fairness());
        x.setGroup(0, 1, 10);
        CHECK.due("it is assigned again", 0.25, () -> x.fairness());
        x.depart(0);
        CHECK.due("it has departed", 1.0, () -> x.fairness());
    }

    private void digestWraps() {
        sentences.ofPromise(25, "Computes a checksum. A number d starts with 43; for each of the following numbers x, "
                + "d becomes d * 31 + x, which wraps around as a 64-bit integer: the number of resources and of "
                + "requests; for each resource its capacity and how many requests are assigned to it; for each "
                + "request its state, how often it has been moved, and, if it is assigned, its resource; the number "
                + "of moves in the log.");
        sentences.ofPromise(25, "Returns d.");
        digestIs("of none", false, new MatchingService());
        digestIs("the last one before it wraps", false, withResources(1, 2, 3, 4), 1, 2, 3, 4);
        digestIs("the first one that wraps", true, withResources(0, 1, 2, 3, 4), 0, 1, 2, 3, 4);
        digestIs("a little later", true, withResources(4, 3, 2, 1, 0, 1), 4, 3, 2, 1, 0, 1);
        digestIs("of each state", true, withEachState(), 0, 1);
        digestIs("of two moves", true, withTwoMoves(), 1, 1, 1);
        CHECK.due("digest(), as a number above 0", 2428393362303957316L, () -> withResources(0, 1, 2, 3, 4).digest());
        MatchingService six = withResources(4, 3, 2, 1, 0, 1);
        CHECK.due("digest(), as a number below 0", -5270757598355910330L, () -> six.digest());
        digestIs("of twelve resources", true, withTwelve(4), 4, 4, 4, 4, 4, 4, 4, 4, 4, 4, 4, 4);
        digestIs("of forty requests", true, withForty(), 4, 4, 4, 4, 4, 4, 4, 4, 4, 4, 4, 4);
        MatchingService moved = sixPairs();
        moved.setLimits(1, 20);
        digestIs("of six moves", true, moved, 1, 1, 1, 1, 1, 1, 1, 1, 1, 1, 1, 1);
    }

    private static void digestIs(String name, boolean wraps, MatchingService x, int... capacities) {
        BigInteger whole = wholeDigest(x, capacities);
        CHECK.due("digest() " + name, whole.longValue(), () -> x.digest());
        CHECK.due("whether 64 bits are too few, " + name, wraps, () -> whole.bitLength() > 63);
    }

    /** The same number as it were if it never wrapped around. */
    private static BigInteger wholeDigest(MatchingService x, int[] capacities) {
        List<Integer> numbers = new ArrayList<>(List.of(capacities.length, x.arrivedCount()));
        for (int resource = 0; resource < capacities.length; resource++) {
            numbers.addAll(List.of(capacities[resource], x.load(resource)));
        }
        for (int request = 0; request < x.arrivedCount(); request++) {
            numbers.addAll(List.of(x.state(request), x.movesOf(request)));
            if (x.state(request) == 1) {
                numbers.add(x.resourceOf(request));
            }
        }
        numbers.add(x.moveCount());
        BigInteger digest = BigInteger.valueOf(43);
        for (int number : numbers) {
            digest = digest.multiply(BigInteger.valueOf(31)).add(BigInteger.valueOf(number));
        }
        return digest;
    }

    private void allLines() {
        CHECK.under("all lines of the promises");
        CHECK.due("what no test is for", List.of(), () -> sentences.leftOfPromises(25));
    }
}
