import java.io.IOException;
import java.math.BigInteger;
import java.util.ArrayList;
import java.util.List;

/** The boundary cases that the promises 9 to 25 name, line by line; each test names its line. */
public final class AnswersBoundariesTest extends Boundaries {

    private AnswersBoundariesTest() throws IOException {
        super("AnswersBoundariesTest");
    }

    public static void main(String[] args) throws IOException {
        AnswersBoundariesTest test = new AnswersBoundariesTest();
        test.whatIs();
        test.logOfMoves();
        test.whatCouldBe();
        test.fairnessAndDigest();
        test.allLines();
        test.check.end();
    }

    // ---- promises 9 to 17

    private void whatIs() {
        counts();
        assignedOf();
        load();
        state();
        resourceOf();
        movesOf();
    }

    private void counts() {
        MatchingService empty = new MatchingService();
        MatchingService forty = withForty();
        sentences.ofPromise(9, "Returns the number of resources.");
        check.due("none", 0, () -> empty.resourceCount());
        check.due("one, without capacity", 1, () -> withResources(0).resourceCount());
        check.due("twelve", 12, () -> forty.resourceCount());

        sentences.ofPromise(10, "Returns how many requests have arrived.");
        check.due("none", 0, () -> empty.arrivedCount());
        check.due("three, one of each state", 3, () -> withEachState().arrivedCount());
        check.due("forty", 40, () -> forty.arrivedCount());

        sentences.ofPromise(11, "Returns how many requests are assigned.");
        check.due("none", 0, () -> empty.assignedCount());
        check.due("one of three", 1, () -> withEachState().assignedCount());
        check.due("forty", 40, () -> forty.assignedCount());

        sentences.ofPromise(12, "Returns how many requests are waiting.");
        check.due("none", 0, () -> empty.waitingCount());
        check.due("one of three", 1, () -> withEachState().waitingCount());
        check.due("none of forty", 0, () -> forty.waitingCount());
        for (int group = 0; group <= 3; group++) {
            forty.setGroup(group, 0, 1);
        }
        check.due("all of forty", 40, () -> forty.waitingCount());
        check.due("assignedCount() then", 0, () -> forty.assignedCount());
        departAll(forty);
        check.due("none, when all have departed", 0, () -> forty.waitingCount());
        check.due("arrivedCount() then", 40, () -> forty.arrivedCount());
    }

    private void assignedOf() {
        MatchingService forty = withForty();
        sentences.ofPromise(13, "- `group`: the group");
        forty.depart(0);
        forty.depart(4);
        forty.depart(3);
        check.due("assignedOf(0)", 8, () -> forty.assignedOf(0));
        check.due("assignedOf(1)", 10, () -> forty.assignedOf(1));
        check.due("assignedOf(3)", 9, () -> forty.assignedOf(3));

        sentences.ofPromise(13, "Returns how many of its requests are assigned.");
        MatchingService x = withResources(1);
        check.due("none", 0, () -> x.assignedOf(2));
        arriveAll(x, 2, 1, 1);
        check.due("one of two", 1, () -> x.assignedOf(2));
        MatchingService all = withTwelve(4);
        arriveMany(all, 40, 3, ALL_TWELVE);
        check.due("forty", 40, () -> all.assignedOf(3));

        sentences.ofPromise(13, "Throws `IndexOutOfBoundsException` if there is no such group");
        outside("assignedOf", 4, forty, (y, index) -> y.assignedOf(index));
        outside("of a new one, assignedOf", 4, new MatchingService(), (y, index) -> y.assignedOf(index));
    }

    private void load() {
        MatchingService x = withTwelve(4);
        arriveMany(x, 5, 0, 1);
        arriveMany(x, 3, 1, 1 << 11);
        sentences.ofPromise(14, "- `resource`: the resource");
        check.due("load(0)", 4, () -> x.load(0));
        check.due("load(1)", 0, () -> x.load(1));
        check.due("load(11)", 3, () -> x.load(11));

        sentences.ofPromise(14, "Returns how many requests are assigned to it.");
        for (int capacity = 0; capacity <= 4; capacity++) {
            int due = capacity;
            x.setCapacity(0, due);
            check.due("load(0) at capacity " + due, due, () -> x.load(0));
        }

        sentences.ofPromise(14, "Throws `IndexOutOfBoundsException` if there is no such resource");
        outside("without a resource, load", 0, new MatchingService(), (y, index) -> y.load(index));
        outside("of one, load", 1, withResources(1), (y, index) -> y.load(index));
        outside("of twelve, load", 12, x, (y, index) -> y.load(index));
    }

    private void state() {
        MatchingService forty = withForty();
        sentences.ofPromise(15, "- `request`: the request");
        forty.depart(0);
        forty.setAccepts(39, 0);
        check.due("state(0)", 2, () -> forty.state(0));
        check.due("state(1)", 1, () -> forty.state(1));
        check.due("state(39)", 0, () -> forty.state(39));

        sentences.ofPromise(15, "Returns 0 if it is waiting, 1 if it is assigned, 2 if it has departed.");
        MatchingService x = withResources(1);
        x.arrive(0, 1);
        check.due("assigned", 1, () -> x.state(0));
        x.setCapacity(0, 0);
        check.due("waiting", 0, () -> x.state(0));
        x.setCapacity(0, 1);
        check.due("assigned again", 1, () -> x.state(0));
        x.depart(0);
        check.due("departed", 2, () -> x.state(0));
        x.arrive(0, 0);
        x.depart(1);
        check.due("departed, and never assigned", 2, () -> x.state(1));

        sentences.ofPromise(15, "Throws `IndexOutOfBoundsException` if no request with this number has arrived");
        outside("without a request, state", 0, withResources(1), (y, index) -> y.state(index));
        outside("of three, state", 3, withEachState(), (y, index) -> y.state(index));
        outside("of forty, state", 40, forty, (y, index) -> y.state(index));
    }

    private void resourceOf() {
        MatchingService forty = withForty();
        sentences.ofPromise(16, "- `request`: the request");
        check.due("resourceOf(0)", 0, () -> forty.resourceOf(0));
        check.due("resourceOf(39)", 9, () -> forty.resourceOf(39));

        sentences.ofPromise(16, "Returns the resource to which it is assigned.");
        forty.setAccepts(0, 1 << 11);
        check.due("the greatest", 11, () -> forty.resourceOf(0));
        forty.setAccepts(39, 1);
        check.due("the smallest", 0, () -> forty.resourceOf(39));
        check.due("of one that was moved", 2, () -> withTwoMoves().resourceOf(1));

        sentences.ofPromise(16, "Throws `IndexOutOfBoundsException` if no request with this number has arrived");
        outside("without a request, resourceOf", 0, withResources(1), (y, index) -> y.resourceOf(index));
        outside("of three, resourceOf", 3, withEachState(), (y, index) -> y.resourceOf(index));
        outside("of forty, resourceOf", 40, forty, (y, index) -> y.resourceOf(index));

        sentences.ofPromise(16, "Throws `java` .util.NoSuchElementException if it is not assigned");
        check.due("one that never was", NO_ELEMENT, () -> withEachState().resourceOf(0));
        check.due("one that is", 1, () -> withEachState().resourceOf(1));
        check.due("one that has departed", NO_ELEMENT, () -> withEachState().resourceOf(2));
        forty.setAccepts(0, 0);
        check.due("one that was put back", NO_ELEMENT, () -> forty.resourceOf(0));
        forty.depart(39);
        check.due("one that was assigned and has departed", NO_ELEMENT, () -> forty.resourceOf(39));
    }

    private void movesOf() {
        MatchingService forty = withForty();
        sentences.ofPromise(17, "- `request`: the request");
        check.due("movesOf(0)", 0, () -> forty.movesOf(0));
        check.due("movesOf(39)", 0, () -> forty.movesOf(39));
        check.due("movesOf(0) of a path", 1, () -> withTwoMoves().movesOf(0));
        check.due("movesOf(1) of a path", 1, () -> withTwoMoves().movesOf(1));

        sentences.ofPromise(17, "Returns how often it has been moved (placing it does not count).");
        MatchingService x = withResources(1, 1);
        x.setLimits(1, 20);
        arriveAll(x, 0, 0b11, 0b01);
        check.due("of one that was placed with a move of another", 0, () -> x.movesOf(1));
        for (int moves = 1; moves <= 20; moves++) {
            int due = moves;
            check.due("after so many", due, () -> x.movesOf(0));
            x.setAccepts(1, 1 << x.resourceOf(0));
        }
        check.due("at the greatest limit", 20, () -> x.movesOf(0));
        stands("at the greatest limit: the other one waits", "0 w", x);
        x.setAccepts(0, 0);
        x.setAccepts(0, 0b11);
        check.due("put back and placed again", 20, () -> x.movesOf(0));
        x.depart(0);
        check.due("departed", 20, () -> x.movesOf(0));

        sentences.ofPromise(17, "Throws `IndexOutOfBoundsException` if no request with this number has arrived");
        outside("without a request, movesOf", 0, withResources(1), (y, index) -> y.movesOf(index));
        outside("of two, movesOf", 2, x, (y, index) -> y.movesOf(index));
        outside("of forty, movesOf", 40, forty, (y, index) -> y.movesOf(index));
    }

    // ---- promises 18 to 20

    /** Two chains of five full resources and a sixth one that is free; three wait for the first one of each. */
    private static MatchingService sixLongPaths() {
        MatchingService x = withTwelve(3);
        x.setLimits(0, 0);
        for (int resource = 0; resource < 5; resource++) {
            arriveMany(x, 3, 0, 0b11 << resource);
        }
        for (int resource = 6; resource < 11; resource++) {
            arriveMany(x, 3, 0, 0b11 << resource);
        }
        arriveMany(x, 3, 3, 1 << 6);
        arriveMany(x, 3, 3, 1);
        return x;
    }

    /** Group 1 waits for its quota; then 53 moves place 33 of its requests. A search for long logs found it. */
    private static MatchingService longestLogFound() {
        MatchingService x = withResources(2, 2, 4, 4, 3, 4, 4, 3, 4, 1, 4, 4);
        x.setLimits(5, 20);
        x.setGroup(1, 0, 1);
        arriveAll(x, 0, 1190, 1290, 166, 4041, 981, 572);
        arriveAll(x, 1, 60, 3696, 2976, 1016, 845, 4041, 1376, 4020, 7, 6, 639, 7, 6, 540, 1, 565, 841, 3, 3, 587, 525,
                1, 619, 524, 619, 539, 572, 515, 524, 519, 660, 525, 129, 142);
        x.setGroup(1, 40, 1);
        return x;
    }

    private void logOfMoves() {
        MatchingService two = withTwoMoves();
        MatchingService none = chain(2);
        MatchingService many = sixPairs();
        many.setLimits(1, 1);

        MatchingService thirty = sixLongPaths();
        thirty.setLimits(5, 1);
        MatchingService longest = longestLogFound();

        sentences.ofPromise(18, "Returns the number of moves in the log.");
        check.due("of a new one", 0, () -> new MatchingService().moveCount());
        check.due("of a change without a move", 0, () -> none.moveCount());
        check.due("two", 2, () -> two.moveCount());
        check.due("six, of six requests placed in one run", 6, () -> many.moveCount());
        check.due("thirty, of six requests placed in one run", 30, () -> thirty.moveCount());
        check.due("fifty-three, of the longest log found", 53, () -> longest.moveCount());

        sentences.ofPromise(19, "- `index`: an index in the log, from 0");
        sentences.ofPromise(19, "Returns the request that was moved.");
        check.due("the first of two", 0, () -> two.movedRequest(0));
        check.due("the last of two", 1, () -> two.movedRequest(1));
        check.due("the first of six", 0, () -> many.movedRequest(0));
        check.due("the last of six", 5, () -> many.movedRequest(5));
        check.due("the last of thirty", 14, () -> thirty.movedRequest(29));
        check.due("the last of fifty-three", 7, () -> longest.movedRequest(52));

        sentences.ofPromise(19, "Throws `IndexOutOfBoundsException` if there is no such index");
        outside("in the empty log of a new one, movedRequest", 0, new MatchingService(), (x, i) -> x.movedRequest(i));
        outside("in the empty log, movedRequest", 0, none, (x, i) -> x.movedRequest(i));
        outside("movedRequest", 2, two, (x, i) -> x.movedRequest(i));
        outside("movedRequest", 6, many, (x, i) -> x.movedRequest(i));
        outside("movedRequest", 30, thirty, (x, i) -> x.movedRequest(i));
        outside("movedRequest", 53, longest, (x, i) -> x.movedRequest(i));

        sentences.ofPromise(20, "- `index`: an index in the log, from 0");
        sentences.ofPromise(20, "Returns the resource to which it was moved.");
        check.due("the first of two", 1, () -> two.movedTo(0));
        check.due("the last of two", 2, () -> two.movedTo(1));
        check.due("the first of six", 1, () -> many.movedTo(0));
        check.due("the last of six", 11, () -> many.movedTo(5));
        check.due("the last of thirty", 5, () -> thirty.movedTo(29));
        check.due("the last of fifty-three", 11, () -> longest.movedTo(52));

        sentences.ofPromise(20, "Throws `IndexOutOfBoundsException` if there is no such index");
        outside("in the empty log of a new one, movedTo", 0, new MatchingService(), (x, i) -> x.movedTo(i));
        outside("in the empty log, movedTo", 0, none, (x, i) -> x.movedTo(i));
        outside("movedTo", 2, two, (x, i) -> x.movedTo(i));
        outside("movedTo", 6, many, (x, i) -> x.movedTo(i));
        outside("movedTo", 30, thirty, (x, i) -> x.movedTo(i));
        outside("movedTo", 53, longest, (x, i) -> x.movedTo(i));
        two.setLimits(2, 3);
        outside("in a log that was cleared, movedRequest", 0, two, (x, i) -> x.movedRequest(i));
        outside("in a log that was cleared, movedTo", 0, two, (x, i) -> x.movedTo(i));
    }

    // ---- promises 21 to 23

    private void whatCouldBe() {
        movesNeeded();
        movesNeededRefuses();
        greatestPossible();
        greatestPossibleRegards();
        greatestPossibleOfMany();
        gainBy();
        gainByOthers();
    }

    private void movesNeeded() {
        sentences.ofPromise(21, "- `request`: the request");
        MatchingService x = withForty();
        x.setAccepts(0, 0);
        x.setGroup(3, 9, 1);
        check.due("movesNeeded(0)", -1, () -> x.movesNeeded(0));
        check.due("movesNeeded(39)", 0, () -> x.movesNeeded(39));

        sentences.ofPromise(21, "Returns how many requests its best path moves (whatever the path limit and the quota "
                + "are); -1 if there is no path.");
        for (int path = 0; path <= 5; path++) {
            MatchingService y = chain(11);
            y.setLimits(path, 1);
            y.setGroup(1, 0, 1);
            y.setGroup(0, 11, 1);
            int limit = path;
            int far = y.arrive(1, 0b1);
            int near = y.arrive(1, 1 << 11);
            int none = y.arrive(1, 0);
            int full = y.arrive(0, 0b1);
            check.due("along twelve, at path limit " + limit + " and quota 0", 11, () -> y.movesNeeded(far));
            check.due("along twelve, at quota 11 that is used up", 11, () -> y.movesNeeded(full));
            check.due("to a free place at quota 0", 0, () -> y.movesNeeded(near));
            check.due("of one that accepts nothing", -1, () -> y.movesNeeded(none));
            y.setLimits(limit, 0);
            check.due("along twelve, when nobody can be moved", -1, () -> y.movesNeeded(far));
            check.due("to a free place, when nobody can be moved", 0, () -> y.movesNeeded(near));
            y.setLimits(limit, 20);
            y.setCapacity(11, 0);
            check.due("along twelve, where none has room", -1, () -> y.movesNeeded(far));
        }
        MatchingService empty = new MatchingService();
        empty.arrive(0, 0);
        check.due("without a resource", -1, () -> empty.movesNeeded(0));
    }

    private void movesNeededRefuses() {
        sentences.ofPromise(21, "Throws `IndexOutOfBoundsException` if no request with this number has arrived");
        outside("without a request, movesNeeded", 0, withResources(1), (y, index) -> y.movesNeeded(index));
        outside("of three, movesNeeded", 3, withEachState(), (y, index) -> y.movesNeeded(index));
        outside("of forty, movesNeeded", 40, withForty(), (y, index) -> y.movesNeeded(index));

        sentences.ofPromise(21, "Throws `java` .util.NoSuchElementException if it is not waiting");
        check.due("one that waits", -1, () -> withEachState().movesNeeded(0));
        check.due("one that is assigned", NO_ELEMENT, () -> withEachState().movesNeeded(1));
        check.due("one that has departed", NO_ELEMENT, () -> withEachState().movesNeeded(2));
    }

    private void greatestPossible() {
        sentences.ofPromise(22, "Returns the greatest number of requests that have not departed and could be assigned "
                + "at the same time, each one to a resource that it accepts, if only capacities and quotas were "
                + "regarded.");
        check.due("of a new one", 0, () -> new MatchingService().greatestPossible());
        check.due("without a request", 0, () -> withTwelve(4).greatestPossible());
        MatchingService noResource = new MatchingService();
        arriveMany(noResource, 40, 0, 0);
        check.due("without a resource", 0, () -> noResource.greatestPossible());
        MatchingService nothing = withTwelve(4);
        arriveMany(nothing, 40, 0, 0);
        check.due("of forty that accept nothing", 0, () -> nothing.greatestPossible());
        MatchingService noPlace = withTwelve(0);
        arriveMany(noPlace, 40, 0, ALL_TWELVE);
        check.due("of forty without a place", 0, () -> noPlace.greatestPossible());
        noPlace.setCapacity(11, 4);
        check.due("of forty at four places", 4, () -> noPlace.greatestPossible());

        MatchingService forty = withForty();
        check.due("of forty", 40, () -> forty.greatestPossible());
        for (int group = 0; group <= 3; group++) {
            forty.setGroup(group, group, 1);
        }
        check.due("of forty at the quotas 0 to 3", 6, () -> forty.greatestPossible());
        forty.setGroup(1, 0, 1);
        forty.setGroup(2, 0, 1);
        forty.setGroup(3, 0, 1);
        check.due("of forty at the quotas 0", 0, () -> forty.greatestPossible());
        forty.setGroup(2, 40, 1);
        departAll(forty);
        check.due("when all have departed", 0, () -> forty.greatestPossible());
    }

    private void greatestPossibleRegards() {
        MatchingService limits = chain(11);
        limits.setLimits(0, 0);
        limits.arrive(0, 0b1);
        check.due("assigned at limits 0", 11, () -> limits.assignedCount());
        check.due("without regard of path and move limit", 12, () -> limits.greatestPossible());
        limits.setGroup(0, 11, 1);
        check.due("with regard of the quota", 11, () -> limits.greatestPossible());
        limits.setGroup(0, 12, 1);
        check.due("at a quota that just suffices", 12, () -> limits.greatestPossible());
        limits.setCapacity(11, 0);
        check.due("with regard of the capacity", 11, () -> limits.greatestPossible());

        MatchingService swapped = withResources(1, 1);
        swapped.setGroup(0, 1, 1);
        arriveAll(swapped, 0, 0b01, 0b10);
        arriveAll(swapped, 1, 0b01);
        check.due("assigned at the quota", 1, () -> swapped.assignedCount());
        check.due("with another one of the group at its quota", 2, () -> swapped.greatestPossible());
        long digest = swapped.digest();
        swapped.greatestPossible();
        check.due("digest() after looking", digest, () -> swapped.digest());
        swapped.depart(1);
        check.due("when the other one has departed", 1, () -> swapped.greatestPossible());
    }

    /** Of several requests in one place, each one counts; what one takes, another one does not find. */
    private void greatestPossibleOfMany() {
        MatchingService second = withResources(2, 1);
        second.setLimits(0, 3);
        arriveAll(second, 0, 0b01, 0b11, 0b01);
        check.due("where only the second of two at a resource leads on", 3, () -> second.greatestPossible());
        MatchingService behind = withResources(1, 1);
        behind.setLimits(0, 3);
        arriveAll(behind, 0, 0b11, 0b00, 0b01);
        check.due("where only the second of two that wait can be assigned", 2, () -> behind.greatestPossible());

        for (int free = 0; free <= 4; free++) {
            MatchingService places = withResources(4, free);
            places.setLimits(0, 3);
            arriveMany(places, 4, 0, 0b11);
            arriveMany(places, 5, 1, 0b01);
            arriveMany(places, 5, 2, 0b01);
            int due = 4 + free;
            check.due("with so many places left: " + free, due, () -> places.greatestPossible());
            places.setGroup(1, free, 1);
            places.setGroup(2, 0, 1);
            check.due("and with as great a quota", due, () -> places.greatestPossible());
            places.setGroup(1, free / 2, 1);
            check.due("and with half the quota", 4 + free / 2, () -> places.greatestPossible());
        }
    }

    private void gainBy() {
        sentences.ofPromise(23, "- `request`: the request");
        MatchingService forty = withForty();
        forty.setAccepts(0, 0);
        check.due("gainBy(0)", 1, () -> forty.gainBy(0));
        check.due("gainBy(39)", 0, () -> forty.gainBy(39));
        forty.setAccepts(39, 0);
        check.due("gainBy(39), which accepts nothing", 1, () -> forty.gainBy(39));

        sentences.ofPromise(23, "Returns how much greater greatestPossible() would be if this request accepted all "
                + "resources; 0 if it has departed.");
        MatchingService empty = new MatchingService();
        empty.arrive(0, 0);
        check.due("without a resource", 0, () -> empty.gainBy(0));
        MatchingService x = withResources(0);
        x.arrive(0, 0);
        check.due("without a place", 0, () -> x.gainBy(0));
        x.setCapacity(0, 1);
        check.due("of one that accepts nothing", 1, () -> x.gainBy(0));
        x.setGroup(0, 0, 1);
        check.due("at quota 0", 0, () -> x.gainBy(0));
        x.setGroup(0, 1, 1);
        check.due("at quota 1", 1, () -> x.gainBy(0));
        x.depart(0);
        check.due("of one that has departed, and accepted nothing", 0, () -> x.gainBy(0));

        MatchingService departed = withResources(1, 1);
        arriveAll(departed, 0, 0b01, 0b01);
        check.due("before the other one departs", 1, () -> departed.gainBy(1));
        departed.depart(0);
        check.due("of one that was assigned and has departed", 0, () -> departed.gainBy(0));
        departed.arrive(0, 0b01);
        check.due("of one that has departed, where it could gain", 0, () -> departed.gainBy(0));
        check.due("of one beside it", 1, () -> departed.gainBy(1));
    }

    private void gainByOthers() {
        MatchingService last = withTwelve(0);
        last.setCapacity(11, 1);
        last.arrive(0, 0);
        check.due("where only the last of twelve has a place", 1, () -> last.gainBy(0));
        MatchingService possible = chain(11);
        possible.setLimits(0, 0);
        possible.arrive(0, 0b1);
        check.due("where twelve are possible, but only eleven assigned", 0, () -> possible.gainBy(11));
        MatchingService x = withResources(1, 1);
        x.setLimits(0, 0);
        arriveAll(x, 0, 0b01, 0b01);
        check.due("of one that is assigned, and leaves its place to another", 1, () -> x.gainBy(0));
        check.due("of one that waits", 1, () -> x.gainBy(1));
        stands("nothing changes by looking", "0 w", x);
        x.setGroup(0, 1, 1);
        check.due("at a quota that is used up", 0, () -> x.gainBy(1));
        x.setGroup(0, 40, 1);
        x.arrive(0, 0b10);
        check.due("where all resources are full", 0, () -> x.gainBy(1));
        MatchingService all = withResources(1, 1);
        arriveAll(all, 0, 0b11, 0b11);
        check.due("of one that accepts all already", 0, () -> all.gainBy(1));

        sentences.ofPromise(23, "Throws `IndexOutOfBoundsException` if no request with this number has arrived");
        outside("without a request, gainBy", 0, withResources(1), (y, index) -> y.gainBy(index));
        outside("of three, gainBy", 3, withEachState(), (y, index) -> y.gainBy(index));
        outside("of forty, gainBy", 40, withForty(), (y, index) -> y.gainBy(index));
    }

    // ---- promises 24 and 25

    private void fairnessAndDigest() {
        fairnessRounded();
        fairnessOfNone();
        digestWraps();
    }

    private void fairnessRounded() {
        sentences.ofPromise(24, "Computes an index of fairness. For each group, let x be the number of its assigned "
                + "requests divided by its weight, as a double. Let s be the sum of all x, and q the sum of the "
                + "products x * x, both added up in ascending order of the groups, starting with 0. The index is "
                + "s * s / (4 * q), where s * s and 4 * q are computed first. All operations are rounded to the "
                + "nearest double.");
        // Any other order of these sums and products, and any smaller type, answers another number here.
        fairnessIs(0.849311400153022, new int[] {1, 1, 1, 3}, new int[] {7, 10, 6, 10});
        fairnessIs(0.7474576271186443, new int[] {1, 1, 2, 3}, new int[] {10, 3, 3, 10});
        fairnessIs(0.8289911851126347, new int[] {1, 1, 3, 1}, new int[] {10, 3, 10, 7});
        fairnessIs(0.7620126926563915, new int[] {1, 1, 3, 4}, new int[] {9, 10, 10, 10});
        fairnessIs(1.0, new int[] {4, 4, 4, 4}, new int[] {10, 10, 10, 10});
        fairnessIs(1.0, new int[] {1, 2, 3, 4}, new int[] {1, 2, 3, 4});
        fairnessIs(0.25, new int[] {0, 0, 1, 0}, new int[] {1, 1, 10, 1});
        fairnessIs(0.5, new int[] {1, 0, 0, 1}, new int[] {1, 1, 1, 1});
        for (int group = 0; group <= 3; group++) {
            MatchingService x = withTwelve(4);
            arriveMany(x, 40, group, ALL_TWELVE);
            check.due("forty of group " + group + " alone", 0.25, () -> x.fairness());
        }
    }

    private void fairnessIs(double due, int[] assigned, int[] weights) {
        MatchingService x = withResources(4, 4, 4, 4);
        for (int group = 0; group <= 3; group++) {
            x.setGroup(group, 40, weights[group]);
            arriveMany(x, assigned[group], group, 0b1111);
        }
        check.due("fairness() by weights", due, () -> x.fairness());
    }

    private void fairnessOfNone() {
        sentences.ofPromise(24, "Returns the index; 1 if no request is assigned.");
        MatchingService x = withResources(1);
        check.due("of a new one", 1.0, () -> new MatchingService().fairness());
        check.due("without a request", 1.0, () -> x.fairness());
        arriveAll(x, 0, 0);
        check.due("one waits", 1.0, () -> x.fairness());
        x.setAccepts(0, 1);
        check.due("one is assigned", 0.25, () -> x.fairness());
        x.setGroup(0, 0, 10);
        check.due("it was put back", 1.0, () -> x.fairness());
        x.setGroup(0, 1, 10);
        check.due("it is assigned again", 0.25, () -> x.fairness());
        x.depart(0);
        check.due("it has departed", 1.0, () -> x.fairness());
    }

    private void digestWraps() {
        sentences.ofPromise(25, "Computes a checksum. A number d starts with 43; for each of the following numbers x, "
                + "d becomes d * 31 + x, which wraps around as a 64-bit integer: the number of resources and of "
                + "requests; for each resource its capacity and how many requests are assigned to it; for each "
                + "request its state, how often it has been moved, and, if it is assigned, its resource; the number "
                + "of moves in the log.");
        sentences.ofPromise(25, "Returns d.");
        digestIs("of none", false, new MatchingService());
        digestIs("the last one before it wraps", false, withResources(1, 2, 3, 4), 1, 2, 3, 4);
        digestIs("the first one that wraps", true, withResources(0, 1, 2, 3, 4), 0, 1, 2, 3, 4);
        digestIs("a little later", true, withResources(4, 3, 2, 1, 0, 1), 4, 3, 2, 1, 0, 1);
        digestIs("of each state", true, withEachState(), 0, 1);
        digestIs("of two moves", true, withTwoMoves(), 1, 1, 1);
        check.due("digest(), as a number above 0", 2428393362303957316L, () -> withResources(0, 1, 2, 3, 4).digest());
        MatchingService six = withResources(4, 3, 2, 1, 0, 1);
        check.due("digest(), as a number below 0", -5270757598355910330L, () -> six.digest());
        digestIs("of twelve resources", true, withTwelve(4), 4, 4, 4, 4, 4, 4, 4, 4, 4, 4, 4, 4);
        digestIs("of forty requests", true, withForty(), 4, 4, 4, 4, 4, 4, 4, 4, 4, 4, 4, 4);
        MatchingService moved = sixPairs();
        moved.setLimits(1, 20);
        digestIs("of six moves", true, moved, 1, 1, 1, 1, 1, 1, 1, 1, 1, 1, 1, 1);
    }

    private void digestIs(String name, boolean wraps, MatchingService x, int... capacities) {
        BigInteger whole = wholeDigest(x, capacities);
        check.due("digest() " + name, whole.longValue(), () -> x.digest());
        check.due("whether 64 bits are too few, " + name, wraps, () -> whole.bitLength() > 63);
    }

    /** The same number as it were if it never wrapped around. */
    private static BigInteger wholeDigest(MatchingService x, int[] capacities) {
        List<Integer> numbers = new ArrayList<>(List.of(capacities.length, x.arrivedCount()));
        for (int resource = 0; resource < capacities.length; resource++) {
            numbers.addAll(List.of(capacities[resource], x.load(resource)));
        }
        for (int request = 0; request < x.arrivedCount(); request++) {
            numbers.addAll(List.of(x.state(request), x.movesOf(request)));
            if (x.state(request) == 1) {
                numbers.add(x.resourceOf(request));
            }
        }
        numbers.add(x.moveCount());
        BigInteger digest = BigInteger.valueOf(43);
        for (int number : numbers) {
            digest = digest.multiply(BigInteger.valueOf(31)).add(BigInteger.valueOf(number));
        }
        return digest;
    }

    private void allLines() {
        check.under("all lines of the promises 9 to 25");
        check.due("what no test is for", List.of(), () -> sentences.leftOfPromises(9, 25));
    }
}
