/** Each promise of the document by hand: ordinary inputs, edges, and wrong inputs. */
public final class PromisesTest extends Scene {

    private static final Check CHECK = new Check("PromisesTest");

    public static void main(String[] args) {
        promise1NewObject();
        promise1FirstLimits();
        promise1Independence();
        promise2AddResource();
        promise2TwelveResources();
        promise3SetCapacity();
        promise3RunOrder();
        promise4SetGroup();
        promise4Weights();
        promise4WrongInputs();
        promise5SetLimits();
        promise6BestPath();
        promise6LongPath();
        promise6Quota();
        promise6WrongInputs();
        promise6FortyRequests();
        promise7Depart();
        promise7RunMeetsQuota();
        promise8SetAccepts();
        promise8WrongInputs();
        promises9To12Counts();
        promise13AssignedOf();
        promise14Load();
        promise15State();
        promise16ResourceOf();
        promise17MovesOf();
        promises18To20Log();
        promises18To20LogIsCleared();
        promise21MovesNeeded();
        promise22GreatestPossible();
        promise23GainBy();
        promise24Fairness();
        promise25Digest();
        exceptionsChangeNothing();
        CHECK.end();
    }

    private static void stands(String name, String due, MatchingService x) {
        CHECK.due(name + ": where the requests stand", due, () -> standing(x));
    }

    private static void logged(String name, String due, MatchingService x) {
        CHECK.due(name + ": the log", due, () -> logOf(x));
    }

    private static void promise1NewObject() {
        MatchingService x = new MatchingService();
        CHECK.due("1: resourceCount()", 0, () -> x.resourceCount());
        CHECK.due("1: arrivedCount()", 0, () -> x.arrivedCount());
        CHECK.due("1: assignedCount()", 0, () -> x.assignedCount());
        CHECK.due("1: waitingCount()", 0, () -> x.waitingCount());
        CHECK.due("1: assignedOf(0)", 0, () -> x.assignedOf(0));
        CHECK.due("1: assignedOf(3)", 0, () -> x.assignedOf(3));
        CHECK.due("1: moveCount()", 0, () -> x.moveCount());
        CHECK.due("1: greatestPossible()", 0, () -> x.greatestPossible());
        CHECK.due("1: fairness()", 1.0, () -> x.fairness());
        CHECK.due("1: digest()", 1281013L, () -> x.digest());
        CHECK.due("1: load(0)", NO_INDEX, () -> x.load(0));
        CHECK.due("1: state(0)", NO_INDEX, () -> x.state(0));
        CHECK.due("1: arrive(0, 1)", WRONG_ARGUMENT, () -> x.arrive(0, 1));
        CHECK.due("1: arrive(0, 0)", 0, () -> x.arrive(0, 0));
        CHECK.due("1: movesNeeded(0)", -1, () -> x.movesNeeded(0));
        CHECK.due("1: gainBy(0)", 0, () -> x.gainBy(0));
    }

    private static void promise1FirstLimits() {
        MatchingService x = withResources(1, 1, 1, 1);
        arriveAll(x, 0, 0b0011, 0b0110, 0b1100);
        stands("1: three in a row", "0 1 2", x);
        CHECK.due("1: three moves are too many", 3, () -> x.arrive(0, 0b0001));
        stands("1: path limit 2 at first", "0 1 2 w", x);
        CHECK.due("1: two moves are not", 4, () -> x.arrive(0, 0b0010));
        stands("1: path limit 2 at first", "0 2 3 w 1", x);

        MatchingService y = withResources(1, 1);
        y.arrive(0, 0b11);
        for (int mask = 1, request = 1; request <= 3; mask = 3 - mask, request++) {
            y.arrive(0, mask);
            y.depart(request);
        }
        CHECK.due("1: moved three times", 3, () -> y.movesOf(0));
        CHECK.due("1: arrive(0, 2)", 4, () -> y.arrive(0, 0b10));
        stands("1: move limit 3 at first", "1 d d d w", y);
        CHECK.due("1: setLimits(2, 4)", 1, () -> y.setLimits(2, 4));
        stands("1: move limit 4", "0 d d d 1", y);
    }

    private static void promise1Independence() {
        MatchingService x = withResources(1);
        MatchingService y = withResources(2, 3);
        x.arrive(0, 1);
        CHECK.due("1: resourceCount() of one", 1, () -> x.resourceCount());
        CHECK.due("1: resourceCount() of another", 2, () -> y.resourceCount());
        CHECK.due("1: arrivedCount() of another", 0, () -> y.arrivedCount());
    }

    private static void promise2AddResource() {
        MatchingService x = new MatchingService();
        CHECK.due("2: addResource(-1)", WRONG_ARGUMENT, () -> x.addResource(-1));
        CHECK.due("2: addResource(5)", WRONG_ARGUMENT, () -> x.addResource(5));
        CHECK.due("2: addResource(least)", WRONG_ARGUMENT, () -> x.addResource(Integer.MIN_VALUE));
        CHECK.due("2: addResource(greatest)", WRONG_ARGUMENT, () -> x.addResource(Integer.MAX_VALUE));
        CHECK.due("2: addResource(0)", 0, () -> x.addResource(0));
        CHECK.due("2: addResource(4)", 1, () -> x.addResource(4));
        arriveAll(x, 0, 0b01, 0b10, 0b10, 0b10, 0b10, 0b10);
        stands("2: capacities 0 and 4", "w 1 1 1 1 w", x);
        CHECK.due("2: addResource(1)", 2, () -> x.addResource(1));
        stands("2: nobody accepts the new one", "w 1 1 1 1 w", x);
        CHECK.due("2: setAccepts(0, 4)", true, () -> x.setAccepts(0, 0b100));
        stands("2: the new one is taken", "2 1 1 1 1 w", x);
    }

    private static void promise2TwelveResources() {
        MatchingService x = new MatchingService();
        for (int number = 0; number < 12; number++) {
            int due = number;
            CHECK.due("2: addResource(1)", due, () -> x.addResource(1));
        }
        CHECK.due("2: addResource(1), the 13th", WRONG_STATE, () -> x.addResource(1));
        CHECK.due("2: addResource(5), the 13th", WRONG_ARGUMENT, () -> x.addResource(5));
        CHECK.due("2: resourceCount()", 12, () -> x.resourceCount());
        CHECK.due("2: arrive(0, 2048)", 0, () -> x.arrive(0, 2048));
        CHECK.due("2: resourceOf(0)", 11, () -> x.resourceOf(0));
    }

    private static void promise3SetCapacity() {
        MatchingService x = withResources(4, 1);
        arriveAll(x, 0, 0b01, 0b01, 0b01, 0b11, 0b01);
        stands("3: before", "0 0 0 1 0", x);
        CHECK.due("3: setCapacity(0, 2)", 2, () -> x.setCapacity(0, 2));
        stands("3: the greatest numbers are put back", "0 0 w 1 w", x);
        CHECK.due("3: setCapacity(0, 2) again", 0, () -> x.setCapacity(0, 2));
        CHECK.due("3: setCapacity(0, 3)", 0, () -> x.setCapacity(0, 3));
        stands("3: the run takes the smallest number", "0 0 0 1 w", x);
        CHECK.due("3: setCapacity(1, 0)", 1, () -> x.setCapacity(1, 0));
        stands("3: capacity 0", "0 0 0 w w", x);
        CHECK.due("3: setCapacity(0, 4)", 0, () -> x.setCapacity(0, 4));
        stands("3: capacity 4", "0 0 0 0 w", x);
        CHECK.due("3: movesOf(3), moved once, then put back and placed", 1, () -> x.movesOf(3));

        CHECK.due("3: setCapacity(0, 0)", 4, () -> x.setCapacity(0, 0));
        stands("3: all are put back", "w w w w w", x);

        CHECK.due("3: setCapacity(-1, 1)", NO_INDEX, () -> x.setCapacity(-1, 1));
        CHECK.due("3: setCapacity(2, 1)", NO_INDEX, () -> x.setCapacity(2, 1));
        CHECK.due("3: setCapacity(2, 5)", NO_INDEX, () -> x.setCapacity(2, 5));
        CHECK.due("3: setCapacity(0, -1)", WRONG_ARGUMENT, () -> x.setCapacity(0, -1));
        CHECK.due("3: setCapacity(0, 5)", WRONG_ARGUMENT, () -> x.setCapacity(0, 5));

        MatchingService y = withResources(2, 1);
        arriveAll(y, 0, 0b01, 0b11);
        CHECK.due("3: setCapacity(0, 1) counts whom the run places", 1, () -> y.setCapacity(0, 1));
        stands("3: put back, then placed elsewhere", "0 1", y);
    }

    private static void promise3RunOrder() {
        MatchingService x = withResources(0);
        arriveAll(x, 0, 1, 1, 1);
        arriveAll(x, 1, 1, 1);
        x.setCapacity(0, 3);
        stands("3: the quotients change in the run", "0 0 w 0 w", x);
    }

    private static void promise4SetGroup() {
        MatchingService x = withResources(4, 1);
        arriveAll(x, 2, 0b01, 0b10, 0b01);
        arriveAll(x, 1, 0b01, 0b01, 0b11);
        stands("4: before", "0 1 0 0 0 w", x);
        CHECK.due("4: setGroup(2, 1, 1)", 2, () -> x.setGroup(2, 1, 1));
        stands("4: the greatest numbers are put back, then a run", "0 w w 0 0 0", x);
        CHECK.due("4: setGroup(2, 1, 1) again", 0, () -> x.setGroup(2, 1, 1));
        CHECK.due("4: setGroup(2, 2, 1)", 0, () -> x.setGroup(2, 2, 1));
        stands("4: a greater quota", "0 1 w 0 0 0", x);
        CHECK.due("4: setGroup(1, 0, 10)", 3, () -> x.setGroup(1, 0, 10));
        stands("4: quota 0", "0 1 w w w w", x);
        CHECK.due("4: setGroup(2, 40, 10)", 0, () -> x.setGroup(2, 40, 10));
        stands("4: quota 40", "0 1 0 w w w", x);
        CHECK.due("4: setGroup(2, 0, 1)", 3, () -> x.setGroup(2, 0, 1));
        stands("4: all are put back", "w w w w w w", x);
    }

    private static void promise4Weights() {
        MatchingService x = withResources(4);
        x.setGroup(0, 40, 2);
        arriveAll(x, 0, 1);
        arriveAll(x, 1, 1, 1);
        arriveAll(x, 3, 1);
        arriveAll(x, 1, 1);
        arriveAll(x, 0, 1);
        x.depart(3);
        stands("4: one of 2 is less than two of 1", "0 0 0 d w 0", x);

        MatchingService y = withResources(4);
        y.setGroup(0, 40, 2);
        y.setGroup(1, 40, 4);
        arriveAll(y, 0, 1);
        arriveAll(y, 1, 1, 1);
        arriveAll(y, 3, 1);
        arriveAll(y, 1, 1);
        arriveAll(y, 0, 1);
        y.depart(3);
        stands("4: one of 2 is as much as two of 4", "0 0 0 d w 0", y);
        CHECK.due("4: setGroup(1, 40, 10)", 0, () -> y.setGroup(1, 40, 10));
        y.depart(0);
        stands("4: two of 10 is less than one of 2", "d 0 0 d 0 0", y);

        MatchingService z = withResources(1);
        z.setGroup(0, 40, 9);
        z.setGroup(2, 40, 10);
        arriveAll(z, 3, 1);
        arriveAll(z, 2, 1);
        arriveAll(z, 0, 1);
        z.depart(0);
        stands("4: none assigned is 0 for every weight", "d w 0", z);
    }

    private static void promise4WrongInputs() {
        MatchingService x = withResources(1);
        CHECK.due("4: setGroup(-1, 1, 1)", NO_INDEX, () -> x.setGroup(-1, 1, 1));
        CHECK.due("4: setGroup(4, 1, 1)", NO_INDEX, () -> x.setGroup(4, 1, 1));
        CHECK.due("4: setGroup(4, 41, 0)", NO_INDEX, () -> x.setGroup(4, 41, 0));
        CHECK.due("4: setGroup(0, -1, 1)", WRONG_ARGUMENT, () -> x.setGroup(0, -1, 1));
        CHECK.due("4: setGroup(0, 41, 1)", WRONG_ARGUMENT, () -> x.setGroup(0, 41, 1));
        CHECK.due("4: setGroup(0, 1, 0)", WRONG_ARGUMENT, () -> x.setGroup(0, 1, 0));
        CHECK.due("4: setGroup(0, 1, 11)", WRONG_ARGUMENT, () -> x.setGroup(0, 1, 11));
        CHECK.due("4: setGroup(0, 1, -1)", WRONG_ARGUMENT, () -> x.setGroup(0, 1, -1));
        CHECK.due("4: setGroup(3, 0, 1)", 0, () -> x.setGroup(3, 0, 1));
        CHECK.due("4: setGroup(0, 40, 10)", 0, () -> x.setGroup(0, 40, 10));
    }

    private static void promise5SetLimits() {
        MatchingService x = withResources(1, 1, 1);
        x.setLimits(0, 20);
        arriveAll(x, 0, 0b011, 0b110, 0b001);
        stands("5: path limit 0 moves none", "0 1 w", x);
        CHECK.due("5: movesNeeded(2)", 2, () -> x.movesNeeded(2));
        CHECK.due("5: setLimits(1, 20)", 0, () -> x.setLimits(1, 20));
        CHECK.due("5: setLimits(5, 0)", 0, () -> x.setLimits(5, 0));
        stands("5: move limit 0 moves none", "0 1 w", x);
        CHECK.due("5: setLimits(2, 1)", 1, () -> x.setLimits(2, 1));
        stands("5: both limits reached", "1 2 0", x);
        logged("5", "0>1 1>2", x);
        CHECK.due("5: setLimits(0, 0)", 0, () -> x.setLimits(0, 0));
        logged("5: no moves", "", x);

        CHECK.due("5: setLimits(-1, 3)", WRONG_ARGUMENT, () -> x.setLimits(-1, 3));
        CHECK.due("5: setLimits(6, 3)", WRONG_ARGUMENT, () -> x.setLimits(6, 3));
        CHECK.due("5: setLimits(2, -1)", WRONG_ARGUMENT, () -> x.setLimits(2, -1));
        CHECK.due("5: setLimits(2, 21)", WRONG_ARGUMENT, () -> x.setLimits(2, 21));
        CHECK.due("5: setLimits(5, 20)", 0, () -> x.setLimits(5, 20));

        MatchingService y = withResources(1, 1, 1, 1);
        y.setLimits(0, 3);
        arriveAll(y, 0, 0b0011, 0b1100, 0b0001, 0b0100);
        stands("5: two wait", "0 2 w w", y);
        CHECK.due("5: setLimits(1, 3) places both", 2, () -> y.setLimits(1, 3));
        logged("5: both runs of moves", "0>1 1>3", y);
    }

    private static void promise6BestPath() {
        bestPath("the smaller resource, and the fewest resources", "0 1", "", withResources(1, 1), 0b11, 0b11);
        bestPath("a free place before a move", "0 0 1", "", withResources(2, 1), 0b01, 0b11, 0b11);
        bestPath("nobody can move", "0 1 w", "", withResources(1, 1), 0b11, 0b11, 0b01);
        bestPath("r1: the smaller request", "1 0 0", "0>1", withResources(2, 1), 0b11, 0b11, 0b01);
        bestPath("r1: the only one that can go on", "1 0 0", "0>1", withResources(2, 1), 0b11, 0b01, 0b01);
        bestPath("a2: the smaller resource", "1 0", "0>1", withResources(1, 1, 1), 0b111, 0b001);
        bestPath("a1 before r1", "1 2 0", "1>2", withResources(1, 1, 1), 0b110, 0b101, 0b011);
        bestPath("r1 before a2", "3 0 0", "0>3", withResources(2, 0, 1, 1), 0b1001, 0b0101, 0b0001);
        bestPath("the fewest resources before r1", "0 3 1 0", "1>3", withResources(2, 1, 1, 1),
                0b0011, 0b1001, 0b0110, 0b0001);
        bestPath("a2 where both lead on", "1 3 2 0", "0>1 1>3", withResources(1, 1, 1, 1),
                0b0111, 0b1010, 0b1100, 0b0001);
        bestPath("a2 where only the greater leads on", "2 1 3 0", "0>2 2>3", withResources(1, 1, 1, 1),
                0b0111, 0b0010, 0b1100, 0b0001);
        bestPath("a resource without capacity leads nowhere", "1 w", "", withResources(0, 1), 0b11, 0b01);
        bestPath("who accepts nothing waits", "w", "", withResources(1, 1), 0b00);
    }

    /** The log is that of the last arrival. */
    private static void bestPath(String name, String stand, String log, MatchingService x, int... masks) {
        arriveAll(x, 0, masks);
        stands("6: " + name, stand, x);
        logged("6: " + name, log, x);
    }

    private static void promise6LongPath() {
        MatchingService x = withResources(1, 1, 1, 1, 1, 1, 1);
        x.setLimits(5, 3);
        arriveAll(x, 0, 3, 3 << 1, 3 << 2, 3 << 3, 3 << 4, 3 << 5);
        x.arrive(3, 1);
        stands("6: six moves are too many", "0 1 2 3 4 5 w", x);
        x.arrive(3, 1 << 1);
        stands("6: five are not", "0 2 3 4 5 6 w 1", x);
        logged("6: in the order of the path", "1>2 2>3 3>4 4>5 5>6", x);
    }

    private static void promise6Quota() {
        MatchingService x = withResources(4);
        x.setGroup(1, 1, 1);
        arriveAll(x, 1, 1, 1);
        arriveAll(x, 2, 1);
        stands("6: the quota", "0 w 0", x);
        CHECK.due("6: movesNeeded(1)", 0, () -> x.movesNeeded(1));
    }

    private static void promise6WrongInputs() {
        MatchingService x = withResources(1, 1);
        CHECK.due("6: arrive(-1, 1)", NO_INDEX, () -> x.arrive(-1, 1));
        CHECK.due("6: arrive(4, 1)", NO_INDEX, () -> x.arrive(4, 1));
        CHECK.due("6: arrive(4, -1)", NO_INDEX, () -> x.arrive(4, -1));
        CHECK.due("6: arrive(0, -1)", WRONG_ARGUMENT, () -> x.arrive(0, -1));
        CHECK.due("6: arrive(0, least)", WRONG_ARGUMENT, () -> x.arrive(0, Integer.MIN_VALUE));
        CHECK.due("6: arrive(0, 4)", WRONG_ARGUMENT, () -> x.arrive(0, 4));
        CHECK.due("6: arrive(0, 1 << 30)", WRONG_ARGUMENT, () -> x.arrive(0, 1 << 30));
        CHECK.due("6: arrive(0, 0)", 0, () -> x.arrive(0, 0));
        CHECK.due("6: arrive(3, 3)", 1, () -> x.arrive(3, 3));
        stands("6: masks 0 and 3", "w 0", x);
    }

    private static void promise6FortyRequests() {
        MatchingService x = withResources(4);
        for (int number = 0; number < 40; number++) {
            int due = number;
            CHECK.due("6: arrive(0, 1)", due, () -> x.arrive(0, 1));
        }
        CHECK.due("6: arrive(0, 1), the 41st", WRONG_STATE, () -> x.arrive(0, 1));
        CHECK.due("6: arrive(0, 2), the 41st", WRONG_ARGUMENT, () -> x.arrive(0, 2));
        CHECK.due("6: arrive(4, 1), the 41st", NO_INDEX, () -> x.arrive(4, 1));
        CHECK.due("6: waitingCount() of forty", 36, () -> x.waitingCount());
        CHECK.due("6: greatestPossible() of forty", 4, () -> x.greatestPossible());
        CHECK.due("6: gainBy(39)", 0, () -> x.gainBy(39));
        CHECK.due("6: movesNeeded(39)", -1, () -> x.movesNeeded(39));
        CHECK.due("6: depart(39)", 0, () -> x.depart(39));
        CHECK.due("6: arrive(0, 1) after a departure", WRONG_STATE, () -> x.arrive(0, 1));
        CHECK.due("6: depart(0)", 1, () -> x.depart(0));
        CHECK.due("6: state(4)", 1, () -> x.state(4));
    }

    private static void promise7Depart() {
        MatchingService x = withResources(1, 1);
        arriveAll(x, 0, 0b01, 0b10, 0b01, 0b01);
        CHECK.due("7: depart(2), which waits", 0, () -> x.depart(2));
        CHECK.due("7: depart(1), whose place nobody accepts", 0, () -> x.depart(1));
        CHECK.due("7: depart(0)", 1, () -> x.depart(0));
        stands("7", "d d d 0", x);
        CHECK.due("7: load(1)", 0, () -> x.load(1));
        CHECK.due("7: assignedOf(0)", 1, () -> x.assignedOf(0));
        CHECK.due("7: depart(0) again", NO_ELEMENT, () -> x.depart(0));
        CHECK.due("7: depart(2) again", NO_ELEMENT, () -> x.depart(2));
        CHECK.due("7: depart(-1)", NO_INDEX, () -> x.depart(-1));
        CHECK.due("7: depart(4)", NO_INDEX, () -> x.depart(4));

        MatchingService y = withResources(1, 1);
        y.setGroup(0, 1, 1);
        arriveAll(y, 0, 0b01, 0b10);
        arriveAll(y, 1, 0b01);
        CHECK.due("7: one departs, two are placed", 2, () -> y.depart(0));
        stands("7: a place and a quota are free", "d 1 0", y);

        MatchingService z = withResources(1, 1);
        arriveAll(z, 0, 0b11, 0b10, 0b01);
        stands("7: before a run that moves", "0 1 w", z);
        CHECK.due("7: depart(1)", 1, () -> z.depart(1));
        stands("7: the run moves", "1 d 0", z);
        logged("7: the run moves", "0>1", z);
    }

    private static void promise7RunMeetsQuota() {
        MatchingService x = withResources(2);
        x.setGroup(0, 1, 10);
        arriveAll(x, 0, 1);
        arriveAll(x, 3, 1);
        arriveAll(x, 0, 1, 1);
        arriveAll(x, 3, 1);
        CHECK.due("7: the group that comes first is at its quota", 1, () -> x.depart(1));
        stands("7: the next one is served", "0 d w w 0", x);
    }

    private static void promise8SetAccepts() {
        MatchingService x = withResources(1, 1, 1);
        arriveAll(x, 0, 0b010);
        CHECK.due("8: setAccepts(0, 7), which still accepts its resource", true, () -> x.setAccepts(0, 0b111));
        stands("8: it stays", "1", x);
        CHECK.due("8: setAccepts(0, 5), which does not", true, () -> x.setAccepts(0, 0b101));
        stands("8: it is put back and placed", "0", x);
        CHECK.due("8: movesOf(0)", 0, () -> x.movesOf(0));
        CHECK.due("8: setAccepts(0, 0)", false, () -> x.setAccepts(0, 0));
        stands("8: it accepts nothing", "w", x);
        CHECK.due("8: load(0)", 0, () -> x.load(0));
        CHECK.due("8: setAccepts(0, 4), which waits", true, () -> x.setAccepts(0, 0b100));
        stands("8: it is placed", "2", x);

        MatchingService y = withResources(1, 1);
        arriveAll(y, 0, 0b01, 0b10, 0b01);
        stands("8: before", "0 1 w", y);
        CHECK.due("8: setAccepts(0, 2), whose place another takes", false, () -> y.setAccepts(0, 0b10));
        stands("8: the run is for all", "w 1 0", y);
        CHECK.due("8: setAccepts(1, 3)", true, () -> y.setAccepts(1, 0b11));
        stands("8: it cannot move yet", "w 1 0", y);
        CHECK.due("8: setAccepts(2, 0)", false, () -> y.setAccepts(2, 0));
        stands("8: the run moves", "1 0 w", y);
        logged("8: the run moves", "1>0", y);
    }

    private static void promise8WrongInputs() {
        MatchingService x = withResources(1, 1);
        arriveAll(x, 0, 0b01, 0b01);
        x.depart(0);
        CHECK.due("8: setAccepts(-1, 1)", NO_INDEX, () -> x.setAccepts(-1, 1));
        CHECK.due("8: setAccepts(2, 1)", NO_INDEX, () -> x.setAccepts(2, 1));
        CHECK.due("8: setAccepts(2, -1)", NO_INDEX, () -> x.setAccepts(2, -1));
        CHECK.due("8: setAccepts(0, 1)", NO_ELEMENT, () -> x.setAccepts(0, 1));
        CHECK.due("8: setAccepts(0, -1)", NO_ELEMENT, () -> x.setAccepts(0, -1));
        CHECK.due("8: setAccepts(1, -1)", WRONG_ARGUMENT, () -> x.setAccepts(1, -1));
        CHECK.due("8: setAccepts(1, 4)", WRONG_ARGUMENT, () -> x.setAccepts(1, 4));
        CHECK.due("8: setAccepts(1, 3)", true, () -> x.setAccepts(1, 3));
    }

    /** Three groups at two resources; "0 1 w d w" then. */
    private static MatchingService fiveRequests() {
        MatchingService x = withResources(1, 2);
        arriveAll(x, 0, 0b01);
        arriveAll(x, 2, 0b10, 0b01);
        arriveAll(x, 3, 0b10, 0b00);
        x.depart(3);
        return x;
    }

    private static void promises9To12Counts() {
        MatchingService x = fiveRequests();
        stands("9 to 12", "0 1 w d w", x);
        CHECK.due("9: resourceCount()", 2, () -> x.resourceCount());
        CHECK.due("10: arrivedCount()", 5, () -> x.arrivedCount());
        CHECK.due("11: assignedCount()", 2, () -> x.assignedCount());
        CHECK.due("12: waitingCount()", 2, () -> x.waitingCount());
        x.setAccepts(0, 0);
        stands("9 to 12", "w 1 0 d w", x);
        CHECK.due("11: assignedCount() then", 2, () -> x.assignedCount());
        CHECK.due("12: waitingCount() then", 2, () -> x.waitingCount());
    }

    private static void promise13AssignedOf() {
        MatchingService x = fiveRequests();
        x.setCapacity(0, 2);
        CHECK.due("13: assignedOf(0)", 1, () -> x.assignedOf(0));
        CHECK.due("13: assignedOf(1)", 0, () -> x.assignedOf(1));
        CHECK.due("13: assignedOf(2)", 2, () -> x.assignedOf(2));
        CHECK.due("13: assignedOf(3)", 0, () -> x.assignedOf(3));
        CHECK.due("13: assignedOf(-1)", NO_INDEX, () -> x.assignedOf(-1));
        CHECK.due("13: assignedOf(4)", NO_INDEX, () -> x.assignedOf(4));
    }

    private static void promise14Load() {
        MatchingService x = withResources(3, 4, 0);
        arriveAll(x, 0, 0b001, 0b001, 0b010, 0b100);
        CHECK.due("14: load(0)", 2, () -> x.load(0));
        CHECK.due("14: load(1)", 1, () -> x.load(1));
        CHECK.due("14: load(2)", 0, () -> x.load(2));
        CHECK.due("14: load(-1)", NO_INDEX, () -> x.load(-1));
        CHECK.due("14: load(3)", NO_INDEX, () -> x.load(3));
        CHECK.due("14: load(12)", NO_INDEX, () -> x.load(12));
    }

    private static void promise15State() {
        MatchingService x = fiveRequests();
        CHECK.due("15: state(0)", 1, () -> x.state(0));
        CHECK.due("15: state(2)", 0, () -> x.state(2));
        CHECK.due("15: state(3)", 2, () -> x.state(3));
        CHECK.due("15: state(-1)", NO_INDEX, () -> x.state(-1));
        CHECK.due("15: state(5)", NO_INDEX, () -> x.state(5));
    }

    private static void promise16ResourceOf() {
        MatchingService x = fiveRequests();
        CHECK.due("16: resourceOf(0)", 0, () -> x.resourceOf(0));
        CHECK.due("16: resourceOf(1)", 1, () -> x.resourceOf(1));
        CHECK.due("16: resourceOf(2), which waits", NO_ELEMENT, () -> x.resourceOf(2));
        CHECK.due("16: resourceOf(3), which has departed", NO_ELEMENT, () -> x.resourceOf(3));
        CHECK.due("16: resourceOf(-1)", NO_INDEX, () -> x.resourceOf(-1));
        CHECK.due("16: resourceOf(5)", NO_INDEX, () -> x.resourceOf(5));
    }

    private static void promise17MovesOf() {
        MatchingService x = withResources(1, 1);
        arriveAll(x, 0, 0b11, 0b01);
        CHECK.due("17: movesOf(0), which was moved", 1, () -> x.movesOf(0));
        CHECK.due("17: movesOf(1), which was placed", 0, () -> x.movesOf(1));
        x.depart(1);
        x.arrive(0, 0b10);
        CHECK.due("17: movesOf(0), moved back", 2, () -> x.movesOf(0));
        x.setCapacity(0, 0);
        CHECK.due("17: movesOf(0), put back", 2, () -> x.movesOf(0));
        x.setCapacity(0, 1);
        CHECK.due("17: movesOf(0), placed again", 2, () -> x.movesOf(0));
        x.depart(0);
        CHECK.due("17: movesOf(0), departed", 2, () -> x.movesOf(0));
        CHECK.due("17: movesOf(-1)", NO_INDEX, () -> x.movesOf(-1));
        CHECK.due("17: movesOf(3)", NO_INDEX, () -> x.movesOf(3));
    }

    private static void promises18To20Log() {
        MatchingService x = withResources(1, 1, 1);
        arriveAll(x, 0, 0b011, 0b110, 0b001);
        CHECK.due("18: moveCount()", 2, () -> x.moveCount());
        CHECK.due("19: movedRequest(0)", 0, () -> x.movedRequest(0));
        CHECK.due("19: movedRequest(1)", 1, () -> x.movedRequest(1));
        CHECK.due("19: movedRequest(-1)", NO_INDEX, () -> x.movedRequest(-1));
        CHECK.due("19: movedRequest(2)", NO_INDEX, () -> x.movedRequest(2));
        CHECK.due("20: movedTo(0)", 1, () -> x.movedTo(0));
        CHECK.due("20: movedTo(1)", 2, () -> x.movedTo(1));
        CHECK.due("20: movedTo(-1)", NO_INDEX, () -> x.movedTo(-1));
        CHECK.due("20: movedTo(2)", NO_INDEX, () -> x.movedTo(2));
        x.setAccepts(2, 0b001);
        CHECK.due("18: moveCount() after another change", 0, () -> x.moveCount());
        CHECK.due("19: movedRequest(0) then", NO_INDEX, () -> x.movedRequest(0));
        CHECK.due("20: movedTo(0) then", NO_INDEX, () -> x.movedTo(0));
    }

    /** Its log holds one move. */
    private static MatchingService withLog() {
        MatchingService x = withResources(1, 1);
        arriveAll(x, 0, 0b11, 0b01);
        return x;
    }

    private static void logIsEmptied(String name, MatchingService x, Check.Call change) {
        logged("18: before " + name, "0>1", x);
        Check.answerOf(change);
        logged("18: after " + name, "", x);
    }

    private static void promises18To20LogIsCleared() {
        MatchingService x = withLog();
        logIsEmptied("addResource", x, () -> x.addResource(1));
        MatchingService y = withLog();
        logIsEmptied("setCapacity", y, () -> y.setCapacity(0, 1));
        MatchingService z = withLog();
        logIsEmptied("setGroup", z, () -> z.setGroup(0, 40, 1));
        MatchingService u = withLog();
        logIsEmptied("setLimits", u, () -> u.setLimits(2, 3));
        MatchingService v = withLog();
        logIsEmptied("arrive", v, () -> v.arrive(0, 0b11));
        MatchingService w = withLog();
        logIsEmptied("depart", w, () -> w.depart(0));
        MatchingService t = withLog();
        logIsEmptied("setAccepts", t, () -> t.setAccepts(1, 0b11));
        MatchingService s = withLog();
        Check.answerOf(() -> s.fairness() + s.greatestPossible() + s.gainBy(0) + s.digest());
        logged("18: after looking", "0>1", s);
    }

    private static void promise21MovesNeeded() {
        MatchingService x = withResources(1, 1, 1, 1, 1, 1, 1, 1, 1, 1, 1, 1);
        for (int request = 0; request < 11; request++) {
            x.arrive(0, 3 << request);
        }
        x.arrive(0, 1);
        CHECK.due("21: movesNeeded(11) along all resources", 11, () -> x.movesNeeded(11));
        x.setGroup(0, 11, 1);
        CHECK.due("21: movesNeeded(11) at the quota", 11, () -> x.movesNeeded(11));
        x.setLimits(0, 1);
        CHECK.due("21: movesNeeded(11) at path limit 0", 11, () -> x.movesNeeded(11));
        x.setLimits(5, 0);
        CHECK.due("21: movesNeeded(11) at move limit 0", -1, () -> x.movesNeeded(11));
        x.arrive(0, 1 << 11);
        CHECK.due("21: movesNeeded(12), whose place is free", 0, () -> x.movesNeeded(12));
        CHECK.due("21: movesNeeded(0), which is assigned", NO_ELEMENT, () -> x.movesNeeded(0));
        x.depart(0);
        CHECK.due("21: movesNeeded(0), which has departed", NO_ELEMENT, () -> x.movesNeeded(0));
        CHECK.due("21: movesNeeded(-1)", NO_INDEX, () -> x.movesNeeded(-1));
        CHECK.due("21: movesNeeded(13)", NO_INDEX, () -> x.movesNeeded(13));
    }

    private static void promise22GreatestPossible() {
        MatchingService x = withResources(1, 1);
        x.setGroup(0, 1, 1);
        arriveAll(x, 0, 0b01, 0b10);
        arriveAll(x, 1, 0b01);
        stands("22: one", "0 w w", x);
        CHECK.due("22: greatestPossible() with another of the group", 2, () -> x.greatestPossible());
        x.setGroup(1, 0, 1);
        CHECK.due("22: greatestPossible() with a quota 0", 1, () -> x.greatestPossible());
        x.setGroup(1, 40, 1);
        x.depart(1);
        CHECK.due("22: greatestPossible() after a departure", 1, () -> x.greatestPossible());

        MatchingService y = withResources(1, 1, 1, 1);
        y.setLimits(0, 0);
        arriveAll(y, 0, 0b0011, 0b0110, 0b1100, 0b0001);
        stands("22: limits 0", "0 1 2 w", y);
        CHECK.due("22: greatestPossible() without the limits", 4, () -> y.greatestPossible());
        y.setCapacity(3, 0);
        CHECK.due("22: greatestPossible() with a capacity 0", 3, () -> y.greatestPossible());

        greatestAboveStanding();

        MatchingService z = withResources(4, 4, 4, 4, 4, 4, 4, 4, 4, 4, 4, 4);
        for (int request = 0; request < 40; request++) {
            z.arrive(request % 4, 0xfff);
        }
        CHECK.due("22: greatestPossible() of all", 40, () -> z.greatestPossible());
        z.setGroup(2, 3, 1);
        CHECK.due("22: greatestPossible() with a quota", 33, () -> z.greatestPossible());
    }

    /** The path limit 0 keeps requests waiting that could be assigned. */
    private static void greatestAboveStanding() {
        MatchingService x = withResources(1, 1, 1, 1);
        x.setLimits(0, 3);
        arriveAll(x, 1, 0b0011, 0b1100);
        arriveAll(x, 0, 0b0001, 0b0100);
        stands("22: two wait", "0 2 w w", x);
        CHECK.due("22: greatestPossible() of two groups", 4, () -> x.greatestPossible());
        x.setGroup(0, 1, 1);
        CHECK.due("22: greatestPossible() where the quota keeps one out", 3, () -> x.greatestPossible());

        MatchingService y = withResources(1, 2);
        y.setLimits(0, 3);
        arriveAll(y, 0, 0b11, 0b01);
        CHECK.due("22: greatestPossible() with a place left over", 2, () -> y.greatestPossible());

        MatchingService z = withResources(2, 1);
        z.setLimits(0, 3);
        arriveAll(z, 0, 0b11, 0b11, 0b01, 0b01);
        stands("22: two at the first", "0 0 w w", z);
        CHECK.due("22: greatestPossible() at the capacities", 3, () -> z.greatestPossible());
    }

    private static void promise23GainBy() {
        MatchingService x = withResources(1, 1);
        arriveAll(x, 0, 0b01, 0b01);
        arriveAll(x, 1, 0b01);
        long before = x.digest();
        CHECK.due("23: gainBy(0), which is assigned", 1, () -> x.gainBy(0));
        CHECK.due("23: gainBy(1), which waits", 1, () -> x.gainBy(1));
        CHECK.due("23: greatestPossible() after that", 1, () -> x.greatestPossible());
        CHECK.due("23: digest() after that", before, () -> x.digest());
        x.setGroup(0, 1, 1);
        CHECK.due("23: gainBy(1) with a quota 1", 1, () -> x.gainBy(1));
        x.setGroup(1, 0, 1);
        CHECK.due("23: gainBy(1) with another group's quota 0", 0, () -> x.gainBy(1));
        CHECK.due("23: gainBy(2) with its quota 0", 0, () -> x.gainBy(2));
        x.setGroup(0, 40, 1);
        x.setAccepts(1, 0b10);
        CHECK.due("23: gainBy(1), which has what it can", 0, () -> x.gainBy(1));
        x.depart(1);
        CHECK.due("23: gainBy(1), which has departed", 0, () -> x.gainBy(1));
        CHECK.due("23: gainBy(-1)", NO_INDEX, () -> x.gainBy(-1));
        CHECK.due("23: gainBy(3)", NO_INDEX, () -> x.gainBy(3));
    }

    private static void promise24Fairness() {
        MatchingService x = withResources(4, 4);
        CHECK.due("24: fairness() of none", 1.0, () -> x.fairness());
        x.arrive(0, 0);
        CHECK.due("24: fairness() of one that waits", 1.0, () -> x.fairness());
        x.arrive(3, 3);
        CHECK.due("24: fairness() of one group", 0.25, () -> x.fairness());
        arriveAll(x, 0, 3);
        arriveAll(x, 1, 3);
        arriveAll(x, 2, 3);
        CHECK.due("24: fairness() of all alike", 1.0, () -> x.fairness());
        arriveAll(x, 1, 3, 3);
        x.setGroup(0, 40, 3);
        x.setGroup(1, 40, 7);
        x.setGroup(2, 40, 10);
        double s = 1.0 / 3.0 + 3.0 / 7.0 + 1.0 / 10.0 + 1.0;
        double q = 1.0 / 3.0 * (1.0 / 3.0) + 3.0 / 7.0 * (3.0 / 7.0) + 1.0 / 10.0 * (1.0 / 10.0) + 1.0;
        CHECK.due("24: fairness() by weights", s * s / (4 * q), () -> x.fairness());
        CHECK.due("24: fairness() by weights, as a number", 0.6642263777133,
                () -> Math.round(x.fairness() * 1e13) / 1e13);
    }

    private static void promise25Digest() {
        MatchingService x = withLog();
        CHECK.due("25: two assigned, one move", digestOf(2, 2, 1, 1, 1, 1, 1, 1, 1, 1, 0, 0, 1), () -> x.digest());
        x.addResource(4);
        CHECK.due("25: a third resource", digestOf(3, 2, 1, 1, 1, 1, 4, 0, 1, 1, 1, 1, 0, 0, 0), () -> x.digest());
        x.arrive(0, 1);
        CHECK.due("25: one waits", digestOf(3, 3, 1, 1, 1, 1, 4, 0, 1, 1, 1, 1, 0, 0, 0, 0, 0), () -> x.digest());
        x.depart(0);
        CHECK.due("25: one has departed", digestOf(3, 3, 1, 1, 1, 0, 4, 0, 2, 1, 1, 0, 0, 0, 0, 0), () -> x.digest());
    }

    private static void exceptionsChangeNothing() {
        MatchingService x = withLog();
        changesNothing("0>1", x, () -> x.addResource(5));
        changesNothing("0>1", x, () -> x.setCapacity(2, 0));
        changesNothing("0>1", x, () -> x.setCapacity(0, 5));
        changesNothing("0>1", x, () -> x.setGroup(4, 0, 1));
        changesNothing("0>1", x, () -> x.setGroup(0, 0, 11));
        changesNothing("0>1", x, () -> x.setGroup(0, 41, 2));
        changesNothing("0>1", x, () -> x.setLimits(0, 21));
        changesNothing("0>1", x, () -> x.setLimits(6, 0));
        changesNothing("0>1", x, () -> x.arrive(4, 1));
        changesNothing("0>1", x, () -> x.arrive(0, 4));
        changesNothing("0>1", x, () -> x.depart(2));
        changesNothing("0>1", x, () -> x.setAccepts(2, 1));
        changesNothing("0>1", x, () -> x.setAccepts(0, 4));
        changesNothing("0>1", x, () -> x.movesNeeded(0));
        changesNothing("0>1", x, () -> x.movedTo(1));
        CHECK.due("exceptions: fairness() by the old weights", 0.25, () -> x.fairness());
        CHECK.due("exceptions: arrive(0, 2)", 2, () -> x.arrive(0, 0b10));
        x.depart(1);
        stands("exceptions: the old limits and quotas", "0 d 1", x);

        MatchingService departed = withResources(1, 1);
        arriveAll(departed, 0, 0b11, 0b10, 0b01);
        departed.depart(1);
        changesNothing("0>1", departed, () -> departed.depart(1));
        changesNothing("0>1", departed, () -> departed.setAccepts(1, 0b10));

        MatchingService full = withResources(1, 1, 1, 1, 1, 1, 1, 1, 1, 1, 1, 1);
        for (int request = 0; request < 38; request++) {
            full.arrive(0, 0);
        }
        arriveAll(full, 0, 0b11, 0b01);
        changesNothing("38>1", full, () -> full.arrive(0, 0b01));
        changesNothing("38>1", full, () -> full.addResource(1));
    }

    private static void changesNothing(String log, MatchingService x, Check.Call wrong) {
        long digest = x.digest();
        CHECK.due("exceptions: one is thrown", true, () -> Check.answerOf(wrong) instanceof Class);
        CHECK.due("exceptions: digest()", digest, () -> x.digest());
        logged("exceptions", log, x);
    }
}
