import java.io.IOException;

/** The boundary cases that the sentences of the description name; each test names its sentence. */
public final class DescriptionBoundariesTest extends Boundaries {

    private DescriptionBoundariesTest() throws IOException {
        super("DescriptionBoundariesTest");
    }

    public static void main(String[] args) throws IOException {
        DescriptionBoundariesTest test = new DescriptionBoundariesTest();
        test.lastOf512Calls();
        test.resourcesGroupsRequests();
        test.limits();
        test.paths();
        test.bestPath();
        test.placing();
        test.run();
        test.puttingBackAndLog();
        test.allSentences();
        test.check.end();
    }

    private void lastOf512Calls() {
        sentences.ofDocument("An object is used for at most 512 calls after it has been made; "
                + "what later calls answer is free.");
        MatchingService x = withResources(1, 1);
        arriveAll(x, 0, 0b11, 0b01);
        for (int call = 5; call < 511; call += 2) {
            x.setCapacity(0, 0);
            x.setCapacity(0, 1);
        }
        x.setGroup(0, 40, 1);
        check.due("digest(), the 512th call", digestOf(2, 2, 1, 1, 1, 1, 1, 1, 1, 1, 0, 0, 0), () -> x.digest());
    }

    // ---- resources, groups, requests

    private void resourcesGroupsRequests() {
        twelveResources();
        capacities();
        groups();
        quotasAndWeights();
        fortyRequests();
        masks();
        threeStates();
    }

    private void twelveResources() {
        sentences.ofDescription("Resources are numbered from 0 in the order of their creation; "
                + "there are at most 12.");
        MatchingService x = new MatchingService();
        check.due("load(0) without a resource", NO_INDEX, () -> x.load(0));
        for (int number = 0; number < 12; number++) {
            int due = number;
            int capacity = number % 5;
            check.due("addResource, number " + due, due, () -> x.addResource(capacity));
            check.due("load of the newest", 0, () -> x.load(due));
            check.due("load of one that does not exist", NO_INDEX, () -> x.load(due + 1));
        }
        check.due("addResource(0), the 13th", WRONG_STATE, () -> x.addResource(0));
        check.due("resourceCount()", 12, () -> x.resourceCount());
        long due = digestOf(12, 0, 0, 0, 1, 0, 2, 0, 3, 0, 4, 0, 0, 0, 1, 0, 2, 0, 3, 0, 4, 0, 0, 0, 1, 0, 0);
        check.due("digest(), which tells the order of creation", due, () -> x.digest());
    }

    private void capacities() {
        sentences.ofDescription("A resource has a capacity from 0 to 4: "
                + "the number of requests that can be assigned to it at the same time.");
        for (int capacity = 0; capacity <= 4; capacity++) {
            int due = capacity;
            MatchingService x = withResources(due);
            arriveMany(x, 5, 0, 0b1);
            check.due("load(0) at capacity " + due, due, () -> x.load(0));
            check.due("waitingCount() at capacity " + due, 5 - due, () -> x.waitingCount());
            check.due("state of the first one that finds it full", 0, () -> x.state(due));
            check.due("greatestPossible() at capacity " + due, due, () -> x.greatestPossible());
        }
        MatchingService x = withResources(1);
        check.due("addResource(-1)", WRONG_ARGUMENT, () -> x.addResource(-1));
        check.due("addResource(5)", WRONG_ARGUMENT, () -> x.addResource(5));
        check.due("setCapacity(0, -1)", WRONG_ARGUMENT, () -> x.setCapacity(0, -1));
        check.due("setCapacity(0, 5)", WRONG_ARGUMENT, () -> x.setCapacity(0, 5));
    }

    private void groups() {
        sentences.ofDescription("There are 4 groups, 0 to 3.");
        MatchingService x = withResources(4);
        for (int group = 0; group <= 3; group++) {
            int number = group;
            check.due("arrive in group " + number, number, () -> x.arrive(number, 0b1));
            check.due("assignedOf(" + number + ")", 1, () -> x.assignedOf(number));
            check.due("setGroup of group " + number, 0, () -> x.setGroup(number, 1, 1));
        }
        for (int group : new int[] {-1, 4, Integer.MIN_VALUE, Integer.MAX_VALUE}) {
            check.due("arrive in group " + group, NO_INDEX, () -> x.arrive(group, 0b1));
            check.due("assignedOf(" + group + ")", NO_INDEX, () -> x.assignedOf(group));
            check.due("setGroup of group " + group, NO_INDEX, () -> x.setGroup(group, 1, 1));
        }
    }

    private void quotasAndWeights() {
        sentences.ofDescription("A group has a quota from 0 to 40, the greatest number of its requests that can be "
                + "assigned at the same time (40 at first), and a weight from 1 to 10 (1 at first).");
        for (int group = 0; group <= 3; group++) {
            quotaAtFirst(group);
            weightAtFirst(group);
            for (int quota : new int[] {0, 1, 39, 40}) {
                quotaBounds(group, quota);
            }
            smallestAndGreatestWeight(group);
        }
        MatchingService x = new MatchingService();
        check.due("quota -1", WRONG_ARGUMENT, () -> x.setGroup(0, -1, 1));
        check.due("quota 41", WRONG_ARGUMENT, () -> x.setGroup(0, 41, 1));
        check.due("weight 0", WRONG_ARGUMENT, () -> x.setGroup(0, 40, 0));
        check.due("weight 11", WRONG_ARGUMENT, () -> x.setGroup(0, 40, 11));
    }

    private void quotaAtFirst(int group) {
        MatchingService x = withTwelve(4);
        arriveMany(x, 40, group, ALL_TWELVE);
        check.due("assignedOf(" + group + ") of forty, without setGroup", 40, () -> x.assignedOf(group));
        check.due("greatestPossible() of forty, without setGroup", 40, () -> x.greatestPossible());
    }

    private void quotaBounds(int group, int quota) {
        MatchingService x = withTwelve(4);
        x.setGroup(group, quota, 1);
        arriveMany(x, 40, group, ALL_TWELVE);
        check.due("assignedOf(" + group + ") at quota " + quota, quota, () -> x.assignedOf(group));
        check.due("waitingCount() at quota " + quota, 40 - quota, () -> x.waitingCount());
        check.due("greatestPossible() at quota " + quota, quota, () -> x.greatestPossible());
    }

    private void weightAtFirst(int group) {
        MatchingService x = withResources(4);
        x.setGroup((group + 1) % 4, 40, 1);
        x.arrive(group, 0b1);
        x.arrive((group + 1) % 4, 0b1);
        check.due("fairness() of weight 1 and of group " + group + " without setGroup", 0.5, () -> x.fairness());
    }

    private void smallestAndGreatestWeight(int group) {
        int other = (group + 2) % 4;
        MatchingService x = withTwelve(4);
        check.due("weight 10", 0, () -> x.setGroup(group, 40, 10));
        check.due("weight 1", 0, () -> x.setGroup(other, 40, 1));
        arriveMany(x, 10, group, ALL_TWELVE);
        x.arrive(other, ALL_TWELVE);
        check.due("fairness() of ten at weight 10 and one at weight 1", 0.5, () -> x.fairness());
    }

    private void fortyRequests() {
        sentences.ofDescription("Requests are numbered from 0 in the order in which they arrive; "
                + "at most 40 can arrive.");
        MatchingService x = new MatchingService();
        for (int number = 0; number < 40; number++) {
            int due = number;
            check.due("state of the next one", NO_INDEX, () -> x.state(due));
            check.due("arrive, number " + due, due, () -> x.arrive(due % 4, 0));
        }
        check.due("arrive, the 41st", WRONG_STATE, () -> x.arrive(0, 0));
        departAll(x);
        check.due("arrive when all forty have departed", WRONG_STATE, () -> x.arrive(0, 0));
        check.due("arrivedCount()", 40, () -> x.arrivedCount());
    }

    private void masks() {
        sentences.ofDescription("A request belongs to a group, and it accepts some resources; "
                + "its mask is the sum of the powers 2^a for all resources a that it accepts.");
        MatchingService x = withTwelve(1);
        for (int resource = 11; resource >= 0; resource--) {
            int due = resource;
            int request = x.arrive(0, 1 << due);
            check.due("resourceOf, of the mask 2^" + due, due, () -> x.resourceOf(request));
        }
        MatchingService y = withTwelve(1);
        arriveAll(y, 0, 1 + 2048, 1 + 2048, 1 + 2048, 0, ALL_TWELVE);
        stands("2^0 + 2^11, no power at all, all powers", "0 11 w w 1", y);
        check.due("arrive with a power too many", WRONG_ARGUMENT, () -> y.arrive(0, 4096));
    }

    private void threeStates() {
        sentences.ofDescription("A request is assigned to a resource that it accepts, or waiting, or departed.");
        MatchingService x = withResources(1, 1);
        arriveAll(x, 0, 0b10, 0b10, 0b10);
        x.depart(2);
        stands("one each, and the free place is not accepted", "1 w d", x);
        check.due("state(0)", 1, () -> x.state(0));
        check.due("state(1)", 0, () -> x.state(1));
        check.due("state(2)", 2, () -> x.state(2));
    }

    // ---- limits

    private void limits() {
        pathLimit();
        moveLimit();
        whoCanBeMoved();
    }

    private void pathLimit() {
        sentences.ofDescription("The path limit, 0 to 5 (2 at first), bounds how many requests are moved "
                + "to place one request.");
        for (int limit = 0; limit <= 5; limit++) {
            MatchingService x = chain(limit + 1);
            x.setLimits(limit, 3);
            pathLimitIs(limit, x);
        }
        pathLimitIs(2, chain(3));
        MatchingService x = new MatchingService();
        check.due("path limit -1", WRONG_ARGUMENT, () -> x.setLimits(-1, 3));
        check.due("path limit 6", WRONG_ARGUMENT, () -> x.setLimits(6, 3));
    }

    /** The chain is one longer than the limit. */
    private void pathLimitIs(int limit, MatchingService chain) {
        int tooFar = chain.arrive(1, 0b01);
        check.due("state of one that needs " + (limit + 1) + " moves", 0, () -> chain.state(tooFar));
        check.due("movesNeeded", limit + 1, () -> chain.movesNeeded(tooFar));
        int near = chain.arrive(1, 0b10);
        check.due("state of one that needs " + limit + " moves", 1, () -> chain.state(near));
        check.due("moveCount()", limit, () -> chain.moveCount());
    }

    private void moveLimit() {
        sentences.ofDescription("The move limit, 0 to 20 (3 at first), bounds how often a request is moved "
                + "in its whole life.");
        for (int limit : new int[] {0, 1, 2, 3, 4, 19, 20}) {
            MatchingService x = withResources(1, 1);
            x.setLimits(2, limit);
            moveLimitIs(limit, x);
        }
        moveLimitIs(3, withResources(1, 1));
        lifeGoesOn();
        MatchingService x = new MatchingService();
        check.due("move limit -1", WRONG_ARGUMENT, () -> x.setLimits(2, -1));
        check.due("move limit 21", WRONG_ARGUMENT, () -> x.setLimits(2, 21));
    }

    private void moveLimitIs(int limit, MatchingService x) {
        x.arrive(0, 0b11);
        for (int move = 1; move <= limit; move++) {
            check.due("state of the one that moves it, time " + move, 1, () -> x.state(displace(x)));
            x.depart(x.arrivedCount() - 1);
        }
        check.due("movesOf(0) at the limit", limit, () -> x.movesOf(0));
        check.due("state of the one that cannot move it any more", 0, () -> x.state(displace(x)));
        check.due("movesOf(0) then", limit, () -> x.movesOf(0));
        check.due("state(0)", 1, () -> x.state(0));
    }

    /** A request arrives that accepts only the resource of request 0. */
    private static int displace(MatchingService x) {
        return x.arrive(1, 1 << x.resourceOf(0));
    }

    private void lifeGoesOn() {
        MatchingService x = withResources(1, 1);
        x.setLimits(2, 1);
        x.arrive(0, 0b11);
        displace(x);
        x.depart(1);
        x.setAccepts(0, 0);
        x.setAccepts(0, 0b11);
        check.due("resourceOf(0), put back and placed again", 0, () -> x.resourceOf(0));
        check.due("state of one that would move it a second time in its life", 0, () -> x.state(displace(x)));
    }

    private void whoCanBeMoved() {
        sentences.ofDescription("A request can be moved if it has been moved less often than the move limit says.");
        MatchingService x = withResources(1, 1);
        x.arrive(0, 0b11);
        displace(x);
        x.depart(1);
        displace(x);
        x.depart(2);
        x.setLimits(2, 2);
        displace(x);
        stands("moved twice, at limit 2", "0 d d w", x);
        check.due("movesNeeded(3) at limit 2", -1, () -> x.movesNeeded(3));
        check.due("setLimits(2, 1), below what it was moved", 0, () -> x.setLimits(2, 1));
        stands("moved twice, at limit 1: it stays", "0 d d w", x);
        check.due("movesNeeded(3) at limit 1", -1, () -> x.movesNeeded(3));
        check.due("setLimits(0, 3)", 0, () -> x.setLimits(0, 3));
        check.due("movesNeeded(3) at limit 3", 1, () -> x.movesNeeded(3));
        check.due("setLimits(2, 3)", 1, () -> x.setLimits(2, 3));
        stands("moved twice, at limit 3", "1 d d 0", x);
    }

    // ---- paths

    private void paths() {
        whatAPathIs();
        longestPath();
        differentResources();
    }

    private void whatAPathIs() {
        sentences.ofDescription("A path for a waiting request r consists of a resource a1 that r accepts; a request r1 "
                + "that is assigned to a1 and can be moved; a resource a2 other than a1 that r1 accepts; a request r2 "
                + "that is assigned to a2 and can be moved; and so on, up to a resource to which fewer requests are "
                + "assigned than its capacity allows.");
        needed("r accepts a1, r1 accepts a2", 1, 0b01, withOneAtFirst(0b11, 1));
        needed("r accepts nothing", -1, 0b00, withOneAtFirst(0b11, 1));
        needed("r1 accepts none other than a1", -1, 0b01, withOneAtFirst(0b01, 1));
        needed("a2 has capacity 0", -1, 0b01, withOneAtFirst(0b11, 0));

        MatchingService immovable = withOneAtFirst(0b11, 1);
        immovable.setLimits(2, 0);
        needed("r1 cannot be moved", -1, 0b01, immovable);

        MatchingService nobody = withResources(0, 1);
        nobody.arrive(0, 0b01);
        needed("nobody is assigned to a1", -1, 0b01, nobody);

        MatchingService changed = withResources(1, 1, 1);
        changed.setLimits(0, 3);
        arriveAll(changed, 0, 0b101, 0b110);
        needed("r1 accepts the free resource", 1, 0b001, changed);
        changed.setAccepts(0, 0b011);
        needed("r1 does not accept it any more, but r2 does", 2, 0b001, changed);
        changed.setAccepts(1, 0b010);
        needed("r2 does not accept it any more", -1, 0b001, changed);

        for (int capacity = 1; capacity <= 4; capacity++) {
            MatchingService almost = withOneAtFirst(0b11, capacity);
            arriveMany(almost, capacity - 1, 1, 0b10);
            needed("one place left of " + capacity, 1, 0b01, almost);
            MatchingService full = withOneAtFirst(0b11, capacity);
            arriveMany(full, capacity, 1, 0b10);
            needed("no place left of " + capacity, -1, 0b01, full);
        }
    }

    /** Request 0 is at resource 0, which is full then; the path limit is 0. */
    private static MatchingService withOneAtFirst(int mask, int otherCapacity) {
        MatchingService x = withResources(1, otherCapacity);
        x.setLimits(0, 3);
        x.arrive(0, mask);
        return x;
    }

    private void needed(String name, int due, int mask, MatchingService x) {
        int request = x.arrive(2, mask);
        check.due("movesNeeded if " + name, due, () -> x.movesNeeded(request));
    }

    private void longestPath() {
        sentences.ofDescription("So a path with k resources moves k - 1 requests; the shortest one has one resource, "
                + "and moves none.");
        MatchingService x = chain(11);
        x.setGroup(3, 0, 1);
        for (int first = 0; first <= 11; first++) {
            int request = x.arrive(3, 1 << first);
            int resources = 12 - first;
            check.due("movesNeeded along " + resources, resources - 1, () -> x.movesNeeded(request));
        }
    }

    private void differentResources() {
        sentences.ofDescription("All resources of a path are different.");
        for (int size = 1; size <= 12; size++) {
            MatchingService ring = new MatchingService();
            for (int resource = 0; resource < size; resource++) {
                ring.addResource(1);
            }
            for (int resource = 0; resource < size; resource++) {
                ring.arrive(0, 1 << resource);
            }
            for (int resource = 0; resource < size; resource++) {
                ring.setAccepts(resource, 1 << resource | 1 << (resource + 1) % size);
            }
            needed("all " + size + " resources are full and lead in a ring", -1, 0b1, ring);
        }
        MatchingService back = withResources(1, 1, 1, 1);
        arriveAll(back, 0, 0b0001, 0b0010, 0b0100);
        back.setAccepts(0, 0b0011);
        back.setAccepts(1, 0b0111);
        back.setAccepts(2, 0b1100);
        back.arrive(0, 0b0010);
        logged("the way back to a smaller resource is no path", "1>2 2>3", back);
    }

    private void bestPath() {
        sentences.ofDescription("Of several paths, the best one is the one with the fewest resources; of several, "
                + "the one whose sequence a1, r1, a2, r2, ... comes first: at the first place where two sequences "
                + "differ, the smaller number decides.");
        best("none moved before a1", "0 1", "", withResources(1, 1), 0b01, 0b11);
        best("one moved before two and a smaller a1", "0 2 3 1", "2>3", withResources(1, 1, 1, 1),
                0b0101, 0b1100, 0b1010, 0b0011);
        best("a1 alone", "0", "", withResources(1, 1), 0b11);
        best("a1 before r1 and a2", "1 3 0", "1>3", withOneAt1And0(), 0b0011);
        best("r1 before a2", "2 0 0", "0>2", withResources(2, 1, 1), 0b101, 0b011, 0b001);
        best("r1, of those that lead on", "0 1 0", "1>1", withResources(2, 1), 0b01, 0b11, 0b01);
        best("a2", "1 0", "0>1", withResources(1, 1, 1), 0b111, 0b001);
        best("a2 before r2 and a3", "2 4 1 0", "2>1 1>4", withResources(1, 1, 1, 1, 1),
                0b01100, 0b10010, 0b00111, 0b00001);
        best("r2 before a3", "3 1 1 0", "2>1 0>3", withResources(1, 2, 1, 1), 0b1010, 0b0110, 0b0011, 0b0001);
        best("a3", "2 1 0", "1>1 0>2", withResources(1, 1, 1, 1), 0b1110, 0b0011, 0b0001);
        MatchingService numbers = withTwelve(1);
        best("2 is smaller than 10", "2", "", numbers, 1 << 10 | 1 << 2);
        best("9 is smaller than 10", "2 9", "", numbers, 1 << 10 | 1 << 9);
    }

    /** Request 0 is at resource 1 and accepts 2, request 1 is at resource 0 and accepts 3. */
    private static MatchingService withOneAt1And0() {
        MatchingService x = withResources(1, 1, 1, 1);
        arriveAll(x, 0, 0b0110, 0b1001);
        return x;
    }

    private void best(String name, String stand, String log, MatchingService x, int... masks) {
        arriveAll(x, 0, masks);
        stands(name, stand, x);
        logged(name, log, x);
    }

    // ---- placing

    private void placing() {
        whoCanBePlaced();
        whatPlacingMeans();
    }

    private void whoCanBePlaced() {
        sentences.ofDescription("A waiting request can be placed if fewer requests of its group are assigned than the "
                + "quota of the group says, and its best path moves no more requests than the path limit says.");
        MatchingService x = withResources(4);
        x.setGroup(1, 2, 1);
        arriveAll(x, 1, 1, 1, 1);
        stands("the quota 2 is used up by two", "0 0 w", x);
        x.arrive(2, 1);
        stands("the quota of another group is not", "0 0 w 0", x);
        x.depart(0);
        stands("one below the quota again", "d 0 0 0", x);

        MatchingService none = withResources(4);
        none.setGroup(0, 0, 10);
        none.arrive(0, 1);
        stands("quota 0", "w", none);

        MatchingService moved = withResources(1, 1);
        moved.setGroup(0, 1, 1);
        moved.arrive(0, 0b11);
        moved.arrive(0, 0b01);
        stands("r and r1 are of a group at its quota", "0 w", moved);
        moved.arrive(1, 0b01);
        stands("only r1 is", "1 w 0", moved);

        MatchingService shortcut = chain(2);
        shortcut.setLimits(0, 3);
        shortcut.arrive(0, 0b101);
        stands("the best path keeps the limit, a longer one would not", "0 1 2", shortcut);
    }

    private void whatPlacingMeans() {
        sentences.ofDescription("To place it means: it is assigned to a1, r1 is moved from a1 to a2, r2 from a2 to a3, "
                + "and so on. The moves are logged in this order.");
        MatchingService x = chain(5);
        x.setLimits(5, 1);
        x.arrive(1, 0b1);
        stands("the greatest number of moves", "1 2 3 4 5 0", x);
        logged("the greatest number of moves", "0>1 1>2 2>3 3>4 4>5", x);
        for (int request = 0; request <= 5; request++) {
            int number = request;
            check.due("movesOf(" + number + ")", number == 5 ? 0 : 1, () -> x.movesOf(number));
            check.due("load(" + number + ")", 1, () -> x.load(number));
        }
        check.due("assignedOf(0), whose requests were moved", 5, () -> x.assignedOf(0));
        check.due("assignedOf(1)", 1, () -> x.assignedOf(1));

        MatchingService falling = withResources(1, 1, 1);
        arriveAll(falling, 0, 0b100, 0b010);
        falling.setAccepts(0, 0b110);
        falling.setAccepts(1, 0b011);
        falling.arrive(0, 0b100);
        logged("the order of the path, not of the numbers of resources", "0>1 1>0", falling);
        MatchingService later = withResources(1, 1, 1);
        arriveAll(later, 0, 0b110, 0b011, 0b001);
        logged("the order of the path, not of the numbers of requests", "1>1 0>2", later);
    }

    // ---- a run

    private void run() {
        eachAtMostOnce();
        untilAllAreTried();
    }

    private void eachAtMostOnce() {
        sentences.ofDescription("A run tries waiting requests, each one at most once.");
        MatchingService none = new MatchingService();
        check.due("setLimits(5, 20) without a request", 0, () -> none.setLimits(5, 20));
        arriveMany(none, 40, 0, 0);
        check.due("setLimits(5, 20), where none of forty can be placed", 0, () -> none.setLimits(5, 20));
        check.due("waitingCount()", 40, () -> none.waitingCount());

        MatchingService all = withTwelve(4);
        all.setGroup(2, 0, 1);
        arriveMany(all, 40, 2, ALL_TWELVE);
        check.due("waitingCount() before", 40, () -> all.waitingCount());
        all.setGroup(2, 40, 1);
        check.due("assignedCount(), where all of forty can be placed", 40, () -> all.assignedCount());
    }

    private void untilAllAreTried() {
        sentences.ofDescription("As long as there are waiting requests that this run has not tried, the next one is "
                + "chosen as follows: of the groups that have such requests, the one with the smallest quotient of the "
                + "number of its assigned requests and its weight (of several, the one with the smallest number); and "
                + "of its requests that have not been tried, the one with the smallest number. If it can be placed, it "
                + "is placed.");
        equalQuotients();
        quotients();
        quotientsOfTheMoment();
        smallestNumber();
        afterOnesThatCannotBePlaced();
    }

    private void equalQuotients() {
        MatchingService falling = withResources(0);
        MatchingService rising = withResources(0);
        for (int group = 0; group <= 3; group++) {
            falling.arrive(3 - group, 1);
            rising.arrive(group, 1);
        }
        for (int group = 0; group <= 3; group++) {
            falling.setCapacity(0, group + 1);
            rising.setCapacity(0, group + 1);
            int number = group;
            check.due("the last one placed, as they arrived falling", 1, () -> falling.state(3 - number));
            check.due("the last one placed, as they arrived rising", 1, () -> rising.state(number));
            check.due("assignedCount(), falling", number + 1, () -> falling.assignedCount());
            check.due("assignedCount(), rising", number + 1, () -> rising.assignedCount());
        }
    }

    private void quotients() {
        served("0 of 1 and 0 of 1", 0, 0, 1, 0, 1);
        served("0 of 1 and 0 of 10", 0, 0, 1, 0, 10);
        served("0 of 10 and 0 of 1", 0, 0, 10, 0, 1);
        served("0 of 1 and 1 of 10", 0, 0, 1, 1, 10);
        served("1 of 10 and 0 of 1", 1, 1, 10, 0, 1);
        served("1 of 10 and 1 of 9", 0, 1, 10, 1, 9);
        served("1 of 9 and 1 of 10", 1, 1, 9, 1, 10);
        served("1 of 2 and 2 of 4", 0, 1, 2, 2, 4);
        served("2 of 4 and 1 of 2", 0, 2, 4, 1, 2);
        served("3 of 9 and 1 of 3", 0, 3, 9, 1, 3);
        served("1 of 3 and 3 of 10", 1, 1, 3, 3, 10);
        served("3 of 10 and 1 of 3", 0, 3, 10, 1, 3);
        served("4 of 1 and 3 of 1", 1, 4, 1, 3, 1);
        served("2 of 2 and 3 of 3", 0, 2, 2, 3, 3);
        served("3 of 4 and 2 of 3", 1, 3, 4, 2, 3);
    }

    /** Of the first two groups one finds the only place; each has so many assigned at so much weight. */
    private void served(String name, int due, int assigned0, int weight0, int assigned1, int weight1) {
        MatchingService x = withResources(4, 4, 0);
        x.setGroup(0, 40, weight0);
        x.setGroup(1, 40, weight1);
        arriveMany(x, assigned0, 0, 0b001);
        arriveMany(x, assigned1, 1, 0b010);
        int first = x.arrive(1, 0b100);
        int second = x.arrive(0, 0b100);
        x.setCapacity(2, 1);
        check.due("served of " + name, due, () -> x.state(second) == 1 ? 0 : 1);
        check.due("only one is", 1, () -> x.state(first) + x.state(second));
    }

    private void quotientsOfTheMoment() {
        MatchingService x = withResources(0);
        x.setGroup(0, 40, 2);
        arriveAll(x, 0, 1, 1, 1);
        arriveAll(x, 3, 1, 1);
        x.setCapacity(0, 3);
        stands("group 0, then group 3 at 0, then group 0 at a half", "0 0 w 0 w", x);
    }

    private void smallestNumber() {
        MatchingService x = withResources(4);
        x.setGroup(1, 0, 1);
        arriveAll(x, 1, 1, 1, 1, 1);
        x.setGroup(1, 1, 1);
        stands("one", "0 w w w", x);
        x.setGroup(1, 3, 1);
        stands("three", "0 0 0 w", x);
        x.depart(1);
        stands("the next one", "0 d 0 0", x);
    }

    private void afterOnesThatCannotBePlaced() {
        MatchingService x = withResources(0, 1);
        arriveAll(x, 0, 0b00, 0b00, 0b01);
        arriveAll(x, 2, 0b00);
        arriveAll(x, 3, 0b10, 0b00, 0b01);
        x.setCapacity(0, 2);
        stands("those that can be placed, behind those that cannot", "w w 0 w 1 w 0", x);

        MatchingService quota = withResources(0);
        quota.setGroup(0, 0, 10);
        arriveAll(quota, 0, 1, 1);
        arriveAll(quota, 1, 1);
        quota.setCapacity(0, 1);
        stands("the first group is at its quota", "w w 0", quota);
    }

    // ---- putting back, the log

    private void puttingBackAndLog() {
        puttingBack();
        changesClearTheLog();
        refusedCalls();
    }

    private void puttingBack() {
        sentences.ofDescription("To put a request back means that it becomes waiting.");
        MatchingService x = withResources(1);
        x.arrive(3, 1);
        x.setCapacity(0, 0);
        check.due("state(0)", 0, () -> x.state(0));
        check.due("waitingCount()", 1, () -> x.waitingCount());
        check.due("assignedCount()", 0, () -> x.assignedCount());
        check.due("assignedOf(3)", 0, () -> x.assignedOf(3));
        check.due("load(0)", 0, () -> x.load(0));
        check.due("resourceOf(0)", NO_ELEMENT, () -> x.resourceOf(0));
        check.due("movesNeeded(0)", -1, () -> x.movesNeeded(0));
    }

    private void changesClearTheLog() {
        sentences.ofDescription("Methods that change something clear the log of moves first "
                + "(if they throw no exception).");
        MatchingService x = withResources(1, 1);
        x.arrive(0, 0b11);
        displace(x);
        logged("a first move", "0>1", x);
        x.depart(1);
        logged("no move", "", x);
        displace(x);
        logged("a second move, alone in the log", "0>0", x);
        x.setLimits(2, 3);
        logged("what was set already", "", x);

        MatchingService y = withResources(1, 1, 1);
        arriveAll(y, 0, 0b011, 0b001, 0b001);
        logged("one waits", "", y);
        y.setLimits(2, 3);
        y.arrive(0, 0b010);
        logged("nobody can move", "", y);
        y.setAccepts(0, 0b110);
        logged("one moves in the run", "0>2", y);
        check.due("setAccepts(0, 4), again", true, () -> y.setAccepts(0, 0b100));
        logged("no move in the run", "", y);

        cleared("addResource", z -> z.addResource(0));
        cleared("setCapacity", z -> z.setCapacity(1, 1));
        cleared("setGroup", z -> z.setGroup(3, 40, 1));
        cleared("setLimits", z -> z.setLimits(2, 3));
        cleared("arrive", z -> z.arrive(0, 0));
        cleared("depart", z -> z.depart(2));
        cleared("setAccepts", z -> z.setAccepts(2, 0));

        logIs("0>1", "resourceCount", z -> z.resourceCount());
        logIs("0>1", "arrivedCount", z -> z.arrivedCount());
        logIs("0>1", "assignedCount", z -> z.assignedCount());
        logIs("0>1", "waitingCount", z -> z.waitingCount());
        logIs("0>1", "assignedOf", z -> z.assignedOf(0));
        logIs("0>1", "load", z -> z.load(0));
        logIs("0>1", "state", z -> z.state(0));
        logIs("0>1", "resourceOf", z -> z.resourceOf(0));
        logIs("0>1", "movesOf", z -> z.movesOf(0));
        logIs("0>1", "movesNeeded", z -> z.movesNeeded(2));
        logIs("0>1", "greatestPossible", z -> z.greatestPossible());
        logIs("0>1", "gainBy", z -> z.gainBy(2));
        logIs("0>1", "fairness", z -> z.fairness());
        logIs("0>1", "digest", z -> z.digest());
    }

    /** A call on a service whose request 0 was just moved, whose request 2 waits, and whose request 3 was placed. */
    private interface Call {
        Object on(MatchingService x);
    }

    private void cleared(String name, Call change) {
        MatchingService x = logIs("", name, change);
        check.due("moveCount() after " + name, 0, () -> x.moveCount());
        check.due("movedRequest(0) after " + name, NO_INDEX, () -> x.movedRequest(0));
        check.due("movedTo(0) after " + name, NO_INDEX, () -> x.movedTo(0));
    }

    private MatchingService logIs(String due, String name, Call call) {
        MatchingService x = withResources(1, 1);
        arriveAll(x, 0, 0b11, 0b10, 0b00);
        x.depart(1);
        x.arrive(0, 0b01);
        logged("before " + name, "0>1", x);
        check.due("whether " + name + " throws", false, () -> Check.answerOf(() -> call.on(x)) instanceof Class);
        logged("after " + name, due, x);
        return x;
    }

    private void refusedCalls() {
        sentences.ofDescription("A method that throws an exception changes nothing. If several exceptions apply, "
                + "the one that is named first is thrown.");
        MatchingService x = withResources(1, 1);
        arriveAll(x, 0, 0b11, 0b01);
        long digest = x.digest();
        check.due("setCapacity(2, 5)", NO_INDEX, () -> x.setCapacity(2, 5));
        check.due("setCapacity(0, 5)", WRONG_ARGUMENT, () -> x.setCapacity(0, 5));
        logged("as before", "0>1", x);
        check.due("digest(), as before", digest, () -> x.digest());
    }

    private void allSentences() {
        check.under("all sentences of the description");
        check.due("what no test is for", "Resources, groups, requests. Limits. Placing a request.",
                () -> sentences.leftOfDescription());
    }
}
