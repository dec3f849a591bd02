import java.io.IOException;
import java.util.List;

/** The boundary cases that the promises 1 to 8 name, line by line; each test names its line. */
public final class ChangesBoundariesTest extends Boundaries {

    private ChangesBoundariesTest() throws IOException {
        super("ChangesBoundariesTest");
    }

    public static void main(String[] args) throws IOException {
        ChangesBoundariesTest test = new ChangesBoundariesTest();
        test.newObject();
        test.changesOfResources();
        test.changesOfGroupsAndLimits();
        test.changesOfRequests();
        test.allLines();
        test.check.end();
    }

    // ---- promise 1

    private void newObject() {
        sentences.ofPromise(1, "Creates a service without resources and requests.");
        MatchingService x = new MatchingService();
        check.due("resourceCount()", 0, () -> x.resourceCount());
        check.due("arrivedCount()", 0, () -> x.arrivedCount());
        check.due("assignedCount()", 0, () -> x.assignedCount());
        check.due("waitingCount()", 0, () -> x.waitingCount());
        check.due("moveCount()", 0, () -> x.moveCount());
        check.due("load(0)", NO_INDEX, () -> x.load(0));
        check.due("state(0)", NO_INDEX, () -> x.state(0));
        check.due("movedRequest(0)", NO_INDEX, () -> x.movedRequest(0));
        check.due("setLimits(5, 20)", 0, () -> x.setLimits(5, 20));
        check.due("setGroup(3, 0, 10)", 0, () -> x.setGroup(3, 0, 10));
        check.due("digest(), still as at first", 43L * 31 * 31 * 31, () -> x.digest());
        MatchingService filled = withForty();
        check.due("arrivedCount() of another", 40, () -> filled.arrivedCount());
        check.due("arrivedCount() beside it", 0, () -> x.arrivedCount());
        check.due("resourceCount() beside it", 0, () -> x.resourceCount());
    }

    // ---- promises 2 and 3

    private void changesOfResources() {
        addResource();
        addResourceRefuses();
        setCapacity();
        setCapacityArguments();
        setCapacityReturns();
        setCapacityRefuses();
    }

    private void addResource() {
        sentences.ofPromise(2, "Adds a resource, and makes a run.");
        MatchingService x = withTwoMoves();
        x.addResource(4);
        stands("as before, for nobody accepts the new one", "1 2 0", x);
        check.due("moveCount()", 0, () -> x.moveCount());
        MatchingService waiting = withResources(0);
        arriveAll(waiting, 0, 0b1, 0b0);
        waiting.addResource(4);
        stands("those that wait do not accept the new one", "w w", waiting);

        sentences.ofPromise(2, "- `capacity`: its capacity");
        for (int capacity = 0; capacity <= 4; capacity++) {
            MatchingService y = withResources(capacity);
            long due = digestOf(1, 0, capacity, 0, 0);
            check.due("digest() with capacity " + capacity, due, () -> y.digest());
        }

        sentences.ofPromise(2, "Returns the number of the resource.");
        MatchingService z = new MatchingService();
        check.due("addResource(0), the first", 0, () -> z.addResource(0));
        for (int number = 1; number < 11; number++) {
            z.addResource(4);
        }
        check.due("addResource(4), the last", 11, () -> z.addResource(4));
    }

    private void addResourceRefuses() {
        MatchingService z = withTwelve(4);
        sentences.ofPromise(2, "Throws `IllegalArgumentException` if capacity is not 0 to 4");
        for (int capacity : new int[] {-1, 5, Integer.MIN_VALUE, Integer.MAX_VALUE}) {
            check.due("capacity " + capacity, WRONG_ARGUMENT, () -> new MatchingService().addResource(capacity));
            check.due("capacity " + capacity + ", the 13th", WRONG_ARGUMENT, () -> z.addResource(capacity));
        }

        sentences.ofPromise(2, "Throws `IllegalStateException` if there are 12 resources");
        for (int capacity = 0; capacity <= 4; capacity++) {
            int allowed = capacity;
            check.due("capacity " + allowed + ", the 13th", WRONG_STATE, () -> z.addResource(allowed));
        }
        check.due("resourceCount()", 12, () -> z.resourceCount());
    }

    private void setCapacity() {
        sentences.ofPromise(3, "Sets a capacity. If more requests are assigned to the resource than it allows, those "
                + "with the greatest numbers are put back. Then makes a run.");
        MatchingService x = withResources(4);
        arriveMany(x, 5, 0, 1);
        x.setCapacity(0, 3);
        stands("one more than allowed", "0 0 0 w w", x);
        x.setCapacity(0, 3);
        stands("as many as allowed", "0 0 0 w w", x);
        x.setCapacity(0, 4);
        stands("fewer than allowed: the run places one", "0 0 0 0 w", x);
        x.setCapacity(0, 0);
        stands("none allowed", "w w w w w", x);
        x.setCapacity(0, 1);
        stands("one allowed", "0 w w w w", x);

        MatchingService late = withResources(4, 4);
        arriveAll(late, 0, 0b10, 0b01, 0b01);
        late.setAccepts(0, 0b01);
        arriveAll(late, 1, 0b10);
        late.setCapacity(0, 2);
        stands("the greatest number, not the one assigned last or of another resource", "0 0 w 1", late);
    }

    private void setCapacityArguments() {
        sentences.ofPromise(3, "- `resource`: the resource");
        MatchingService y = withTwelve(0);
        for (int resource : new int[] {0, 11}) {
            int request = y.arrive(0, 1 << resource);
            check.due("setCapacity(" + resource + ", 1)", 0, () -> y.setCapacity(resource, 1));
            check.due("resourceOf", resource, () -> y.resourceOf(request));
        }
        check.due("load(1)", 0, () -> y.load(1));

        sentences.ofPromise(3, "- `capacity`: the new capacity");
        for (int capacity = 0; capacity <= 4; capacity++) {
            MatchingService z = withResources(4 - capacity);
            z.setCapacity(0, capacity);
            long due = digestOf(1, 0, capacity, 0, 0);
            check.due("digest() with capacity " + capacity, due, () -> z.digest());
        }
    }

    private void setCapacityReturns() {
        sentences.ofPromise(3, "Returns how many requests were put back (before the run).");
        MatchingService x = withResources(4, 1);
        arriveMany(x, 3, 0, 0b01);
        arriveAll(x, 0, 0b11);
        check.due("setCapacity(0, 4), all stay", 0, () -> x.setCapacity(0, 4));
        check.due("setCapacity(0, 3), one goes and is placed by the run", 1, () -> x.setCapacity(0, 3));
        stands("placed by the run", "0 0 0 1", x);
        check.due("setCapacity(0, 0), all go", 3, () -> x.setCapacity(0, 0));
        check.due("setCapacity(0, 4), three are placed", 0, () -> x.setCapacity(0, 4));
        x.setAccepts(3, 0b01);
        check.due("setCapacity(0, 0), the greatest number", 4, () -> x.setCapacity(0, 0));
    }

    private void setCapacityRefuses() {
        MatchingService x = withResources(4, 1);
        sentences.ofPromise(3, "Throws `IndexOutOfBoundsException` if there is no such resource");
        outside("without a resource, setCapacity", 0, new MatchingService(), (y, index) -> y.setCapacity(index, 0));
        outside("setCapacity", 2, x, (y, index) -> y.setCapacity(index, 4));
        outside("with a wrong capacity, setCapacity", 2, x, (y, index) -> y.setCapacity(index, 5));
        outside("of twelve, setCapacity", 12, withTwelve(1), (y, index) -> y.setCapacity(index, -1));

        sentences.ofPromise(3, "Throws `IllegalArgumentException` if capacity is not 0 to 4");
        for (int capacity : new int[] {-1, 5, Integer.MIN_VALUE, Integer.MAX_VALUE}) {
            check.due("capacity " + capacity, WRONG_ARGUMENT, () -> x.setCapacity(1, capacity));
        }
    }

    // ---- promises 4 and 5

    private void changesOfGroupsAndLimits() {
        setGroup();
        setGroupArguments();
        setGroupReturns();
        setGroupRefuses();
        setLimits();
        setLimitsReturnsOrRefuses();
    }

    private void setGroup() {
        sentences.ofPromise(4, "Sets the quota and the weight of a group. If more of its requests are assigned than "
                + "the quota says, those with the greatest numbers are put back. Then makes a run.");
        MatchingService x = withResources(4, 4);
        arriveAll(x, 1, 0b10, 0b01, 0b01);
        arriveAll(x, 2, 0b01);
        x.setAccepts(0, 0b01);
        x.setGroup(1, 3, 1);
        stands("as many as the quota", "0 0 0 0", x);
        x.setGroup(1, 2, 1);
        stands("one more than the quota", "0 0 w 0", x);
        x.setGroup(1, 0, 1);
        stands("quota 0, another group's stay", "w w w 0", x);
        x.setGroup(1, 40, 1);
        stands("quota 40: the run places all", "0 0 0 0", x);
    }

    private void setGroupArguments() {
        sentences.ofPromise(4, "- `group`: the group");
        for (int group : new int[] {0, 3}) {
            MatchingService y = withForty();
            y.setGroup(group, 0, 10);
            check.due("assignedOf(" + group + ") at quota 0", 0, () -> y.assignedOf(group));
            check.due("assignedCount()", 30, () -> y.assignedCount());
        }

        sentences.ofPromise(4, "- `quota`: the new quota");
        MatchingService y = withTwelve(4);
        arriveMany(y, 40, 3, ALL_TWELVE);
        for (int quota : new int[] {0, 1, 39, 40, 39, 0, 40}) {
            y.setGroup(3, quota, 1);
            check.due("assignedOf(3) at quota " + quota, quota, () -> y.assignedOf(3));
        }

        sentences.ofPromise(4, "- `weight`: the new weight");
        MatchingService z = withForty();
        z.setGroup(0, 0, 1);
        z.setGroup(1, 0, 1);
        for (int weight = 1; weight <= 10; weight++) {
            double share = 10.0 / weight;
            double due = (share + 10) * (share + 10) / (4 * (share * share + 100));
            z.setGroup(2, 40, weight);
            check.due("fairness() at weight " + weight, due, () -> z.fairness());
        }
    }

    private void setGroupReturns() {
        sentences.ofPromise(4, "Returns how many requests were put back (before the run).");
        MatchingService x = withTwelve(4);
        arriveMany(x, 40, 2, ALL_TWELVE);
        check.due("setGroup(2, 40, 1), all stay", 0, () -> x.setGroup(2, 40, 1));
        check.due("setGroup(2, 39, 1), one goes", 1, () -> x.setGroup(2, 39, 1));
        check.due("state(39)", 0, () -> x.state(39));
        check.due("setGroup(2, 39, 10), as many as the quota", 0, () -> x.setGroup(2, 39, 10));
        check.due("setGroup(2, 40, 1), one is placed", 0, () -> x.setGroup(2, 40, 1));
        check.due("setGroup(2, 0, 1), all go", 40, () -> x.setGroup(2, 0, 1));
        check.due("setGroup(2, 0, 1), none is assigned", 0, () -> x.setGroup(2, 0, 1));

        MatchingService y = withResources(1, 1);
        arriveAll(y, 0, 0b10, 0b10);
        y.setAccepts(0, 0b11);
        arriveAll(y, 0, 0b01);
        stands("two assigned, one waits", "0 1 w", y);
        check.due("setGroup(0, 1, 1)", 1, () -> y.setGroup(0, 1, 1));
        stands("one put back", "0 w w", y);

        MatchingService between = withResources(4, 4);
        arriveAll(between, 1, 0b01, 0b01);
        arriveAll(between, 2, 0b01, 0b10);
        check.due("setGroup(1, 1, 1), where another group has greater numbers", 1, () -> between.setGroup(1, 1, 1));
        stands("the other group stays", "0 w 0 1", between);
    }

    private void setGroupRefuses() {
        sentences.ofPromise(4, "Throws `IndexOutOfBoundsException` if there is no such group");
        outside("setGroup", 4, withForty(), (x, index) -> x.setGroup(index, 0, 1));
        outside("with a wrong quota and weight, setGroup", 4, withForty(), (x, index) -> x.setGroup(index, 41, 0));

        sentences.ofPromise(4, "Throws `IllegalArgumentException` if quota is not 0 to 40, or weight is not 1 to 10");
        MatchingService x = withResources(4);
        for (int group = 0; group <= 3; group++) {
            int number = group;
            for (int quota : new int[] {-1, 41, Integer.MIN_VALUE, Integer.MAX_VALUE}) {
                check.due("quota " + quota, WRONG_ARGUMENT, () -> x.setGroup(number, quota, 1));
            }
            for (int weight : new int[] {0, -1, 11, Integer.MIN_VALUE, Integer.MAX_VALUE}) {
                check.due("weight " + weight, WRONG_ARGUMENT, () -> x.setGroup(number, 40, weight));
            }
            check.due("both", WRONG_ARGUMENT, () -> x.setGroup(number, 41, 11));
            check.due("the smallest ones", 0, () -> x.setGroup(number, 0, 1));
            check.due("the greatest ones", 0, () -> x.setGroup(number, 40, 10));
        }
    }

    private void setLimits() {
        sentences.ofPromise(5, "Sets both limits, and makes a run.");
        MatchingService x = chain(5);
        x.setLimits(0, 0);
        x.arrive(0, 0b1);
        x.setLimits(5, 0);
        stands("the move limit is too small", "0 1 2 3 4 w", x);
        x.setLimits(4, 20);
        stands("the path limit is too small", "0 1 2 3 4 w", x);
        x.setLimits(5, 1);
        stands("the run places it", "1 2 3 4 5 0", x);

        sentences.ofPromise(5, "- `path`: the path limit");
        sentences.ofPromise(5, "- `move`: the move limit");
        for (int path = 0; path <= 5; path++) {
            MatchingService y = chain(6);
            y.setLimits(0, 0);
            y.arrive(0, 1 << (6 - path));
            y.arrive(0, 1 << (5 - path));
            int limit = path;
            check.due("setLimits(" + limit + ", 0)", 0, () -> y.setLimits(limit, 0));
            check.due("setLimits(" + limit + ", 20)", limit == 0 ? 0 : 1, () -> y.setLimits(limit, 20));
        }
    }

    private void setLimitsReturnsOrRefuses() {
        sentences.ofPromise(5, "Returns how many requests were placed in the run.");
        check.due("without a request", 0, () -> new MatchingService().setLimits(0, 0));
        MatchingService pairs = sixPairs();
        check.due("setLimits(0, 20)", 0, () -> pairs.setLimits(0, 20));
        check.due("setLimits(1, 1), where six can move", 6, () -> pairs.setLimits(1, 1));
        check.due("moveCount()", 6, () -> pairs.moveCount());

        sentences.ofPromise(5, "Throws `IllegalArgumentException` if path is not 0 to 5, or move is not 0 to 20");
        for (int path : new int[] {-1, 6, Integer.MIN_VALUE, Integer.MAX_VALUE}) {
            check.due("path " + path, WRONG_ARGUMENT, () -> pairs.setLimits(path, 3));
        }
        for (int move : new int[] {-1, 21, Integer.MIN_VALUE, Integer.MAX_VALUE}) {
            check.due("move " + move, WRONG_ARGUMENT, () -> pairs.setLimits(2, move));
        }
        check.due("both", WRONG_ARGUMENT, () -> pairs.setLimits(6, 21));
        check.due("the smallest ones", 0, () -> pairs.setLimits(0, 0));
        check.due("the greatest ones", 0, () -> pairs.setLimits(5, 20));
    }

    // ---- promises 6 to 8

    private void changesOfRequests() {
        arrive();
        arriveRefuses();
        depart();
        departReturnsOrRefuses();
        setAccepts();
        setAcceptsArguments();
        setAcceptsReturns();
        setAcceptsRefuses();
    }

    private void arrive() {
        sentences.ofPromise(6, "A request arrives. If it can be placed, it is placed; otherwise it waits. "
                + "There is no run.");
        MatchingService x = withResources(1);
        arriveAll(x, 0, 1, 1, 0);
        stands("the last place, none left, nothing accepted", "0 w w", x);
        MatchingService none = new MatchingService();
        none.arrive(0, 0);
        stands("no resource", "w", none);
        MatchingService full = withTwelve(1);
        arriveMany(full, 13, 0, ALL_TWELVE);
        stands("twelve resources that are full", "0 1 2 3 4 5 6 7 8 9 10 11 w", full);

        sentences.ofPromise(6, "- `group`: its group");
        for (int group : new int[] {0, 3}) {
            MatchingService y = withResources(1);
            y.arrive(group, 1);
            check.due("assignedOf(" + group + ")", 1, () -> y.assignedOf(group));
        }

        sentences.ofPromise(6, "- `mask`: the mask of the resources that it accepts");
        MatchingService y = withTwelve(1);
        arriveAll(y, 0, 0, 1, 1 << 11, ALL_TWELVE, 1);
        stands("the smallest and the greatest masks", "w 0 11 1 w", y);

        sentences.ofPromise(6, "Returns the number of the request.");
        MatchingService z = withResources(1);
        check.due("the first", 0, () -> z.arrive(0, 1));
        z.depart(0);
        check.due("the second, though the first has departed", 1, () -> z.arrive(0, 1));
        arriveMany(z, 37, 0, 1);
        check.due("the last", 39, () -> z.arrive(0, 1));
    }

    private void arriveRefuses() {
        MatchingService forty = withForty();
        sentences.ofPromise(6, "Throws `IndexOutOfBoundsException` if there is no such group");
        outside("arrive", 4, withResources(1), (x, index) -> x.arrive(index, 1));
        outside("with a wrong mask, arrive", 4, withResources(1), (x, index) -> x.arrive(index, 2));
        outside("the 41st, arrive", 4, forty, (x, index) -> x.arrive(index, 1));
        outside("with a wrong mask, the 41st, arrive", 4, forty, (x, index) -> x.arrive(index, -1));

        sentences.ofPromise(6, "Throws `IllegalArgumentException` if mask is negative, or has a bit of a resource "
                + "that does not exist");
        for (int resources = 0; resources <= 12; resources++) {
            MatchingService x = new MatchingService();
            for (int resource = 0; resource < resources; resource++) {
                x.addResource(1);
            }
            int none = 1 << resources;
            check.due("the least mask too great, " + none, WRONG_ARGUMENT, () -> x.arrive(0, none));
            check.due("with bits that do exist, " + (2 * none - 1), WRONG_ARGUMENT, () -> x.arrive(0, 2 * none - 1));
            check.due("the greatest mask, " + (none - 1), 0, () -> x.arrive(0, none - 1));
        }
        MatchingService x = withTwelve(1);
        for (int mask : new int[] {-1, -2048, -4096, 1 << 30, Integer.MIN_VALUE, Integer.MAX_VALUE}) {
            check.due("mask " + mask, WRONG_ARGUMENT, () -> x.arrive(0, mask));
            check.due("mask " + mask + ", the 41st", WRONG_ARGUMENT, () -> forty.arrive(0, mask));
        }

        sentences.ofPromise(6, "Throws `IllegalStateException` if 40 requests have arrived");
        check.due("the 41st", WRONG_STATE, () -> forty.arrive(0, 1));
        check.due("the 41st, with the mask 0", WRONG_STATE, () -> forty.arrive(3, 0));
        departAll(forty);
        check.due("the 41st, when all have departed", WRONG_STATE, () -> forty.arrive(0, 1));
        MatchingService almost = new MatchingService();
        arriveMany(almost, 39, 0, 0);
        check.due("the 40th", 39, () -> almost.arrive(0, 0));
        check.due("the 41st", WRONG_STATE, () -> almost.arrive(0, 0));
    }

    private void depart() {
        sentences.ofPromise(7, "A request departs. Then makes a run.");
        MatchingService x = withResources(1);
        arriveAll(x, 0, 1, 1, 1);
        x.depart(1);
        stands("one that waited", "0 d w", x);
        x.depart(0);
        stands("the one that was assigned", "d d 0", x);
        x.depart(2);
        stands("the last one", "d d d", x);
        check.due("load(0)", 0, () -> x.load(0));
        check.due("assignedOf(0)", 0, () -> x.assignedOf(0));
        check.due("waitingCount()", 0, () -> x.waitingCount());
    }

    private void departReturnsOrRefuses() {
        sentences.ofPromise(7, "- `request`: the request");
        MatchingService y = withForty();
        y.depart(0);
        y.depart(39);
        for (int request : new int[] {0, 1, 38, 39}) {
            check.due("state(" + request + ")", request % 39 == 0 ? 2 : 1, () -> y.state(request));
        }

        sentences.ofPromise(7, "Returns how many requests were placed in the run.");
        MatchingService z = withResources(1, 1);
        z.setGroup(0, 1, 1);
        arriveAll(z, 0, 0b01, 0b10);
        arriveAll(z, 1, 0b01, 0b01);
        check.due("one that waited", 0, () -> z.depart(3));
        check.due("one that left a place and a quota, and two take them", 2, () -> z.depart(0));
        check.due("one whose place nobody takes", 0, () -> z.depart(1));
        arriveAll(z, 1, 0b01);
        check.due("one whose place another takes", 1, () -> z.depart(2));

        sentences.ofPromise(7, "Throws `IndexOutOfBoundsException` if no request with this number has arrived");
        outside("without a request, depart", 0, withResources(1), (u, index) -> u.depart(index));
        outside("of three, depart", 3, withEachState(), (u, index) -> u.depart(index));
        outside("of forty, depart", 40, y, (u, index) -> u.depart(index));

        sentences.ofPromise(7, "Throws `java` .util.NoSuchElementException if it has departed already");
        check.due("depart(0) again", NO_ELEMENT, () -> y.depart(0));
        check.due("depart(39) again", NO_ELEMENT, () -> y.depart(39));
        check.due("depart(38)", 0, () -> y.depart(38));
        check.due("depart(38) again", NO_ELEMENT, () -> y.depart(38));
    }

    private void setAccepts() {
        sentences.ofPromise(8, "Sets which resources a request accepts. If it is assigned to one that it does not "
                + "accept any more, it is put back. Then makes a run.");
        MatchingService x = withResources(1, 1);
        arriveAll(x, 0, 0b10, 0b10);
        x.setAccepts(0, 0b11);
        stands("it stays, though a smaller one is free; nobody moves while none is to be placed", "0 1", x);
        x.setAccepts(0, 0b01);
        stands("it accepts its own alone", "0 1", x);
        x.setAccepts(0, 0b00);
        stands("it accepts nothing any more", "w 1", x);
        x.setAccepts(0, 0b10);
        stands("it accepts one that is full", "w 1", x);
        x.setAccepts(1, 0b01);
        stands("both find another one in the run", "1 0", x);
        check.due("movesOf(1), put back and placed", 0, () -> x.movesOf(1));

        MatchingService stays = withResources(1, 1);
        arriveAll(stays, 0, 0b10);
        stays.setAccepts(0, 0b11);
        stands("it stays", "1", stays);
    }

    private void setAcceptsArguments() {
        sentences.ofPromise(8, "- `request`: the request");
        MatchingService y = withForty();
        y.setAccepts(0, 1 << 11);
        y.setAccepts(39, 1 << 11);
        check.due("resourceOf(0)", 11, () -> y.resourceOf(0));
        check.due("resourceOf(39)", 11, () -> y.resourceOf(39));
        check.due("resourceOf(38)", 9, () -> y.resourceOf(38));

        sentences.ofPromise(8, "- `mask`: the new mask");
        MatchingService z = withTwelve(1);
        z.arrive(0, 0);
        for (int resource = 0; resource < 12; resource++) {
            int due = resource;
            z.setAccepts(0, 1 << due);
            check.due("resourceOf(0), with 2^" + due, due, () -> z.resourceOf(0));
        }
        z.setAccepts(0, 0);
        z.setAccepts(0, ALL_TWELVE);
        check.due("resourceOf(0), with all", 0, () -> z.resourceOf(0));
    }

    private void setAcceptsReturns() {
        sentences.ofPromise(8, "Returns whether the request is assigned afterwards.");
        MatchingService x = withResources(1, 1);
        arriveAll(x, 0, 0b01, 0b01);
        check.due("assigned before, and after", true, () -> x.setAccepts(0, 0b01));
        check.due("assigned before, and after, elsewhere", true, () -> x.setAccepts(0, 0b10));
        stands("another one took its place", "1 0", x);
        check.due("assigned before, not after", false, () -> x.setAccepts(0, 0b00));
        check.due("not assigned before or after", false, () -> x.setAccepts(0, 0b01));
        check.due("not assigned before, but after", true, () -> x.setAccepts(0, 0b11));

        MatchingService quota = withResources(4, 1);
        arriveAll(quota, 0, 0b10, 0b01);
        quota.setGroup(0, 1, 1);
        stands("the quota is used up", "1 w", quota);
        check.due("not assigned, for the quota", false, () -> quota.setAccepts(1, 0b11));
        check.due("assigned after it was put back", true, () -> quota.setAccepts(0, 0b01));
        stands("the smaller number first", "0 w", quota);
    }

    private void setAcceptsRefuses() {
        sentences.ofPromise(8, "Throws `IndexOutOfBoundsException` if no request with this number has arrived");
        outside("without a request, setAccepts", 0, withResources(1), (x, index) -> x.setAccepts(index, 1));
        outside("of three, setAccepts", 3, withEachState(), (x, index) -> x.setAccepts(index, 3));
        outside("with a wrong mask, setAccepts", 3, withEachState(), (x, index) -> x.setAccepts(index, 4));
        outside("of forty, setAccepts", 40, withForty(), (x, index) -> x.setAccepts(index, -1));

        sentences.ofPromise(8, "Throws `java` .util.NoSuchElementException if it has departed");
        MatchingService x = withEachState();
        check.due("setAccepts(2, 3)", NO_ELEMENT, () -> x.setAccepts(2, 0b11));
        check.due("setAccepts(2, 0)", NO_ELEMENT, () -> x.setAccepts(2, 0));
        check.due("with a wrong mask, setAccepts(2, 4)", NO_ELEMENT, () -> x.setAccepts(2, 0b100));
        check.due("with a wrong mask, setAccepts(2, -1)", NO_ELEMENT, () -> x.setAccepts(2, -1));

        sentences.ofPromise(8, "Throws `IllegalArgumentException` if mask is negative, or has a bit of a resource "
                + "that does not exist");
        for (int mask : new int[] {-1, 0b100, 0b111, -4, Integer.MIN_VALUE, Integer.MAX_VALUE, 1 << 30}) {
            check.due("of one that waits, mask " + mask, WRONG_ARGUMENT, () -> x.setAccepts(0, mask));
            check.due("of one that is assigned, mask " + mask, WRONG_ARGUMENT, () -> x.setAccepts(1, mask));
        }
        check.due("the greatest mask", true, () -> x.setAccepts(1, 0b11));
        check.due("the smallest mask", false, () -> x.setAccepts(1, 0b00));
        MatchingService empty = new MatchingService();
        empty.arrive(0, 0);
        check.due("without a resource, mask 1", WRONG_ARGUMENT, () -> empty.setAccepts(0, 1));
        check.due("without a resource, mask 0", false, () -> empty.setAccepts(0, 0));
        MatchingService twelve = withForty();
        check.due("of twelve, mask 4096", WRONG_ARGUMENT, () -> twelve.setAccepts(39, 4096));
        check.due("of twelve, mask 4095", true, () -> twelve.setAccepts(39, ALL_TWELVE));
    }

    private void allLines() {
        check.under("all lines of the promises 1 to 8");
        check.due("what no test is for", List.of(), () -> sentences.leftOfPromises(1, 8));
    }
}
