import java.util.NoSuchElementException;

/** Assigns requests to resources while requests come and go. */
public final class MatchingService {

    private static final int MOST_RESOURCES = 12;
    private static final int MOST_REQUESTS = 40;
    private static final int GROUPS = 4;
    private static final int GREATEST_CAPACITY = 4;
    private static final int GREATEST_QUOTA = 40;
    private static final int GREATEST_WEIGHT = 10;
    private static final int GREATEST_PATH_LIMIT = 5;
    private static final int GREATEST_MOVE_LIMIT = 20;

    private static final int STATE_WAITING = 0;
    private static final int STATE_ASSIGNED = 1;
    private static final int STATE_DEPARTED = 2;

    private static final long DIGEST_START = 43;
    private static final long DIGEST_FACTOR = 31;

    /** Stands for "no request" or "no resource" where a search finds none. */
    private static final int NONE = -1;

    private final Pool pool;
    private final MoveLog log;
    private final PathSearch paths;
    private final Placer placer;
    private final Flow flow;

    public MatchingService() {
        pool = new Pool();
        log = new MoveLog();
        paths = new PathSearch(pool);
        placer = new Placer(pool, paths, log);
        flow = new Flow(pool);
    }

    // ---- changes

    public int addResource(int capacity) throws IllegalArgumentException, IllegalStateException {
        if (!isWithin(capacity, 0, GREATEST_CAPACITY)) {
            throw new IllegalArgumentException("the capacity is not 0 to 4");
        }
        if (pool.resources >= MOST_RESOURCES) {
            throw new IllegalStateException("there are 12 resources");
        }
        log.clear();
        int resource = pool.openResource(capacity);
        placer.runOnce();
        return resource;
    }

    public int setCapacity(int resource, int capacity) throws IndexOutOfBoundsException, IllegalArgumentException {
        requireResource(resource);
        if (!isWithin(capacity, 0, GREATEST_CAPACITY)) {
            throw new IllegalArgumentException("the capacity is not 0 to 4");
        }
        log.clear();
        pool.capacity[resource] = capacity;
        int putBack = pool.putBackBeyondCapacity(resource);
        placer.runOnce();
        return putBack;
    }

    public int setGroup(int group, int quota, int weight) throws IndexOutOfBoundsException, IllegalArgumentException {
        requireGroup(group);
        if (!isWithin(quota, 0, GREATEST_QUOTA)) {
            throw new IllegalArgumentException("the quota is not 0 to 40");
        }
        if (!isWithin(weight, 1, GREATEST_WEIGHT)) {
            throw new IllegalArgumentException("the weight is not 1 to 10");
        }
        log.clear();
        pool.quota[group] = quota;
        pool.weight[group] = weight;
        int putBack = pool.putBackBeyondQuota(group);
        placer.runOnce();
        return putBack;
    }

    public int setLimits(int path, int move) throws IllegalArgumentException {
        if (!isWithin(path, 0, GREATEST_PATH_LIMIT)) {
            throw new IllegalArgumentException("the path limit is not 0 to 5");
        }
        if (!isWithin(move, 0, GREATEST_MOVE_LIMIT)) {
            throw new IllegalArgumentException("the move limit is not 0 to 20");
        }
        log.clear();
        pool.pathLimit = path;
        pool.moveLimit = move;
        return placer.runOnce();
    }

    public int arrive(int group, int mask)
            throws IndexOutOfBoundsException, IllegalArgumentException, IllegalStateException {
        requireGroup(group);
        requireMask(mask);
        if (pool.requests >= MOST_REQUESTS) {
            throw new IllegalStateException("40 requests have arrived");
        }
        log.clear();
        int request = pool.admit(group, mask);
        placer.tryToPlace(request);
        return request;
    }

    public int depart(int request) throws IndexOutOfBoundsException, NoSuchElementException {
        requirePresent(request);
        log.clear();
        pool.dismiss(request);
        return placer.runOnce();
    }

    public boolean setAccepts(int request, int mask)
            throws IndexOutOfBoundsException, NoSuchElementException, IllegalArgumentException {
        requirePresent(request);
        requireMask(mask);
        log.clear();
        pool.accept(request, mask);
        placer.runOnce();
        return pool.isAssigned(request);
    }

    // ---- what is

    public int resourceCount() {
        return pool.resources;
    }

    public int arrivedCount() {
        return pool.requests;
    }

    public int assignedCount() {
        return pool.countAssigned();
    }

    public int waitingCount() {
        return pool.countWaiting();
    }

    public int assignedOf(int group) throws IndexOutOfBoundsException {
        requireGroup(group);
        return pool.assigned[group];
    }

    public int load(int resource) throws IndexOutOfBoundsException {
        requireResource(resource);
        return pool.load[resource];
    }

    public int state(int request) throws IndexOutOfBoundsException {
        requireRequest(request);
        return pool.stateNumber(request);
    }

    public int resourceOf(int request) throws IndexOutOfBoundsException, NoSuchElementException {
        requireRequest(request);
        if (!pool.isAssigned(request)) {
            throw new NoSuchElementException("the request is not assigned");
        }
        return pool.place[request];
    }

    public int movesOf(int request) throws IndexOutOfBoundsException {
        requireRequest(request);
        return pool.moves[request];
    }

    // ---- the log of moves

    public int moveCount() {
        return log.size;
    }

    public int movedRequest(int index) throws IndexOutOfBoundsException {
        requireLogged(index);
        return log.request[index];
    }

    public int movedTo(int index) throws IndexOutOfBoundsException {
        requireLogged(index);
        return log.target[index];
    }

    // ---- what could be

    public int movesNeeded(int request) throws IndexOutOfBoundsException, NoSuchElementException {
        requireRequest(request);
        if (!pool.isWaiting(request)) {
            throw new NoSuchElementException("the request is not waiting");
        }
        // A search that finds no path leaves the length 0, so this is -1 then.
        return paths.search(request) - 1;
    }

    public int greatestPossible() {
        return flow.greatest(NONE);
    }

    public int gainBy(int request) throws IndexOutOfBoundsException {
        requireRequest(request);
        if (pool.isDeparted(request)) {
            return 0;
        }
        return flow.greatest(request) - flow.greatest(NONE);
    }

    public double fairness() {
        double sum = 0;
        double squares = 0;
        for (int group = 0; group < GROUPS; group++) {
            double share = (double) pool.assigned[group] / (double) pool.weight[group];
            sum = sum + share;
            squares = squares + share * share;
        }
        // Only with no request assigned are all shares, and so the divisor, 0.
        return squares > 0 ? (sum * sum) / (4 * squares) : 1.0;
    }

    public long digest() {
        long digest = mix(DIGEST_START, pool.resources);
        digest = mix(digest, pool.requests);
        for (int resource = 0; resource < pool.resources; resource++) {
            digest = mix(digest, pool.capacity[resource]);
            digest = mix(digest, pool.load[resource]);
        }
        for (int request = 0; request < pool.requests; request++) {
            digest = mix(digest, pool.stateNumber(request));
            digest = mix(digest, pool.moves[request]);
            if (pool.isAssigned(request)) {
                digest = mix(digest, pool.place[request]);
            }
        }
        return mix(digest, log.size);
    }

    // ---- checks of arguments

    private void requireResource(int resource) {
        if (!isWithin(resource, 0, pool.resources - 1)) {
            throw new IndexOutOfBoundsException("there is no such resource");
        }
    }

    private void requireGroup(int group) {
        if (!isWithin(group, 0, GROUPS - 1)) {
            throw new IndexOutOfBoundsException("there is no such group");
        }
    }

    private void requireRequest(int request) {
        if (!isWithin(request, 0, pool.requests - 1)) {
            throw new IndexOutOfBoundsException("no request with this number has arrived");
        }
    }

    private void requirePresent(int request) {
        requireRequest(request);
        if (pool.isDeparted(request)) {
            throw new NoSuchElementException("the request has departed");
        }
    }

    private void requireMask(int mask) {
        if (mask < 0 || (mask & ~pool.maskOfAll()) != 0) {
            throw new IllegalArgumentException("the mask names a resource that does not exist");
        }
    }

    private void requireLogged(int index) {
        if (!isWithin(index, 0, log.size - 1)) {
            throw new IndexOutOfBoundsException("there is no such index in the log");
        }
    }

    private static boolean isWithin(int number, int least, int greatest) {
        return number >= least && number <= greatest;
    }

    private static boolean hasBit(int mask, int bit) {
        return ((mask >> bit) & 1) != 0;
    }

    private static int lowestResource(int mask) {
        for (int resource = 0; resource < MOST_RESOURCES; resource++) {
            if (hasBit(mask, resource)) {
                return resource;
            }
        }
        return NONE;
    }

    private static long mix(long digest, int number) {
        return digest * DIGEST_FACTOR + number;
    }

    /** The resources, groups and requests, and where each request stands. */
    private static final class Pool {
        private static final int FIRST_PATH_LIMIT = 2;
        private static final int FIRST_MOVE_LIMIT = 3;

        /** In place of the resource of a request; smaller than every resource, so that one test tells. */
        private static final int WAITING = -1;
        private static final int DEPARTED = -2;

        private int resources;
        private final int[] capacity = new int[MOST_RESOURCES];
        private final int[] load = new int[MOST_RESOURCES];

        private final int[] quota = new int[GROUPS];
        private final int[] weight = new int[GROUPS];
        private final int[] assigned = new int[GROUPS];

        private int requests;
        private final int[] group = new int[MOST_REQUESTS];
        private final int[] accepted = new int[MOST_REQUESTS];
        private final int[] place = new int[MOST_REQUESTS];
        private final int[] moves = new int[MOST_REQUESTS];

        private int pathLimit = FIRST_PATH_LIMIT;
        private int moveLimit = FIRST_MOVE_LIMIT;

        Pool() {
            for (int each = 0; each < GROUPS; each++) {
                quota[each] = GREATEST_QUOTA;
                weight[each] = 1;
            }
        }

        int maskOfAll() {
            return (1 << resources) - 1;
        }

        boolean isWaiting(int request) {
            return place[request] == WAITING;
        }

        boolean isAssigned(int request) {
            return place[request] >= 0;
        }

        boolean isDeparted(int request) {
            return place[request] == DEPARTED;
        }

        int stateNumber(int request) {
            if (isWaiting(request)) {
                return STATE_WAITING;
            }
            return isAssigned(request) ? STATE_ASSIGNED : STATE_DEPARTED;
        }

        boolean canBeMoved(int request) {
            return place[request] >= 0 && moves[request] < moveLimit;
        }

        boolean resourceHasRoom(int resource) {
            return load[resource] < capacity[resource];
        }

        boolean groupHasRoom(int which) {
            return assigned[which] < quota[which];
        }

        int countAssigned() {
            int count = 0;
            for (int each = 0; each < GROUPS; each++) {
                count += assigned[each];
            }
            return count;
        }

        int countWaiting() {
            int count = 0;
            for (int request = 0; request < requests; request++) {
                if (isWaiting(request)) {
                    count++;
                }
            }
            return count;
        }

        int openResource(int itsCapacity) {
            int resource = resources;
            capacity[resource] = itsCapacity;
            resources++;
            return resource;
        }

        int admit(int itsGroup, int mask) {
            int request = requests;
            group[request] = itsGroup;
            accepted[request] = mask;
            place[request] = WAITING;
            requests++;
            return request;
        }

        void dismiss(int request) {
            putBack(request);
            place[request] = DEPARTED;
        }

        void accept(int request, int mask) {
            accepted[request] = mask;
            if (isAssigned(request) && !hasBit(mask, place[request])) {
                putBack(request);
            }
        }

        void assign(int request, int resource) {
            place[request] = resource;
            load[resource]++;
            assigned[group[request]]++;
        }

        void move(int request, int resource) {
            putBack(request);
            assign(request, resource);
            moves[request]++;
        }

        void putBack(int request) {
            if (isAssigned(request)) {
                load[place[request]]--;
                assigned[group[request]]--;
                place[request] = WAITING;
            }
        }

        int putBackBeyondCapacity(int resource) {
            int count = 0;
            for (int request = requests - 1; request >= 0 && load[resource] > capacity[resource]; request--) {
                if (place[request] == resource) {
                    putBack(request);
                    count++;
                }
            }
            return count;
        }

        int putBackBeyondQuota(int which) {
            int count = 0;
            for (int request = requests - 1; request >= 0 && assigned[which] > quota[which]; request--) {
                if (group[request] == which && isAssigned(request)) {
                    putBack(request);
                    count++;
                }
            }
            return count;
        }
    }

    /** The moves of the last change. */
    private static final class MoveLog {
        /** Each request is placed at most once in a change, and no placing moves more than the path limit says. */
        private static final int ROOM = MOST_REQUESTS * GREATEST_PATH_LIMIT;

        private final int[] request = new int[ROOM];
        private final int[] target = new int[ROOM];
        private int size;

        void clear() {
            size = 0;
        }

        void add(int moved, int resource) {
            if (size < ROOM) {
                request[size] = moved;
                target[size] = resource;
                size++;
            }
        }
    }

    /**
     * Finds the best path of a request. The resources are put in layers by the fewest resources that a path from
     * them has; a best path goes down one layer with each step, so that its resources are all different.
     */
    private static final class PathSearch {
        private final Pool pool;

        /** For each resource, the mask of those to which one of its requests can be moved. */
        private final int[] successors = new int[MOST_RESOURCES];
        /** At k, the mask of the resources from which the shortest path has k resources. */
        private final int[] layer = new int[MOST_RESOURCES + 1];

        /** The path found last: request[i] is to be moved from resource[i] to resource[i + 1]. */
        private final int[] resource = new int[MOST_RESOURCES];
        private final int[] request = new int[MOST_RESOURCES];
        private int length;

        PathSearch(Pool pool) {
            this.pool = pool;
        }

        /** Answers the number of resources of the best path, 0 if there is no path. */
        int search(int waiting) {
            collectSuccessors();
            buildLayers();
            length = shortestFrom(pool.accepted[waiting]);
            if (!trace(pool.accepted[waiting])) {
                length = 0;
            }
            return length;
        }

        private void collectSuccessors() {
            for (int from = 0; from < pool.resources; from++) {
                successors[from] = 0;
            }
            for (int each = 0; each < pool.requests; each++) {
                if (pool.canBeMoved(each)) {
                    successors[pool.place[each]] |= pool.accepted[each];
                }
            }
        }

        private void buildLayers() {
            layer[1] = 0;
            for (int each = 0; each < pool.resources; each++) {
                if (pool.resourceHasRoom(each)) {
                    layer[1] |= 1 << each;
                }
            }
            int seen = layer[1];
            for (int k = 2; k <= pool.resources; k++) {
                layer[k] = leadingTo(layer[k - 1]) & ~seen;
                seen |= layer[k];
            }
        }

        private int leadingTo(int mask) {
            int leading = 0;
            for (int each = 0; each < pool.resources; each++) {
                if ((successors[each] & mask) != 0) {
                    leading |= 1 << each;
                }
            }
            return leading;
        }

        private int shortestFrom(int mask) {
            for (int k = 1; k <= pool.resources; k++) {
                if ((layer[k] & mask) != 0) {
                    return k;
                }
            }
            return 0;
        }

        /** The layers promise a next step at each place, so false is answered only for a length of 0. */
        private boolean trace(int mask) {
            int here = lowestResource(mask & layer[length]);
            for (int step = 0; step < length - 1 && here != NONE; step++) {
                int below = layer[length - step - 1];
                int next = firstMovable(here, below);
                if (next == NONE) {
                    return false;
                }
                resource[step] = here;
                request[step] = next;
                here = lowestResource(pool.accepted[next] & below);
            }
            if (length == 0 || here == NONE) {
                return false;
            }
            resource[length - 1] = here;
            return true;
        }

        private int firstMovable(int from, int targets) {
            for (int each = 0; each < pool.requests; each++) {
                if (pool.place[each] == from && pool.canBeMoved(each) && (pool.accepted[each] & targets) != 0) {
                    return each;
                }
            }
            return NONE;
        }
    }

    /** Places waiting requests, one or in a run. */
    private static final class Placer {
        private final Pool pool;
        private final PathSearch paths;
        private final MoveLog log;
        private final boolean[] tried = new boolean[MOST_REQUESTS];

        Placer(Pool pool, PathSearch paths, MoveLog log) {
            this.pool = pool;
            this.paths = paths;
            this.log = log;
        }

        /** Answers how many requests were placed. */
        int runOnce() {
            for (int request = 0; request < pool.requests; request++) {
                tried[request] = false;
            }
            int placed = 0;
            for (int turn = 0; turn < pool.requests; turn++) {
                int request = nextToTry();
                if (request == NONE) {
                    break;
                }
                tried[request] = true;
                if (tryToPlace(request)) {
                    placed++;
                }
            }
            return placed;
        }

        private int nextToTry() {
            int next = NONE;
            for (int request = 0; request < pool.requests; request++) {
                if (pool.isWaiting(request) && !tried[request]
                        && (next == NONE || isServedBefore(pool.group[request], pool.group[next]))) {
                    next = request;
                }
            }
            return next;
        }

        private boolean isServedBefore(int one, int other) {
            // The quotients are compared by products of small whole numbers, and so exactly.
            int left = pool.assigned[one] * pool.weight[other];
            int right = pool.assigned[other] * pool.weight[one];
            return left < right || (left == right && one < other);
        }

        boolean tryToPlace(int request) {
            if (!pool.groupHasRoom(pool.group[request])) {
                return false;
            }
            int length = paths.search(request);
            if (length == 0 || length - 1 > pool.pathLimit) {
                return false;
            }
            placeAlongPath(request);
            return true;
        }

        private void placeAlongPath(int request) {
            pool.assign(request, paths.resource[0]);
            for (int step = 0; step < paths.length - 1; step++) {
                int moved = paths.request[step];
                int target = paths.resource[step + 1];
                pool.move(moved, target);
                log.add(moved, target);
            }
        }
    }

    /**
     * Finds how many requests could be assigned at once, by a greatest flow from the groups over requests to the
     * resources. Its nodes are the groups and, behind them, the resources: a request that flows nowhere stands at
     * its group, any other one at its resource, and a step takes one request from a node to another.
     */
    private static final class Flow {
        private static final int NODES = GROUPS + MOST_RESOURCES;

        private final Pool pool;

        private final int[] node = new int[MOST_REQUESTS];
        private final int[] accepted = new int[MOST_REQUESTS];
        private final int[] load = new int[MOST_RESOURCES];
        private final int[] used = new int[GROUPS];

        private final int[] queue = new int[NODES];
        private int queued;
        private final boolean[] seen = new boolean[NODES];
        private final int[] before = new int[NODES];
        private final int[] carried = new int[NODES];

        Flow(Pool pool) {
            this.pool = pool;
        }

        /** Answers the greatest number, with the request widened, if it is one, accepting all resources. */
        int greatest(int widened) {
            copyAssignment(widened);
            int count = pool.countAssigned();
            for (int turn = 0; turn < pool.requests; turn++) {
                if (!augment()) {
                    break;
                }
                count++;
            }
            return count;
        }

        /** What is assigned keeps all capacities and quotas, so the flow can begin with it. */
        private void copyAssignment(int widened) {
            for (int resource = 0; resource < pool.resources; resource++) {
                load[resource] = pool.load[resource];
            }
            for (int group = 0; group < GROUPS; group++) {
                used[group] = pool.assigned[group];
            }
            for (int request = 0; request < pool.requests; request++) {
                node[request] = startOf(request);
                accepted[request] = request == widened ? pool.maskOfAll() : pool.accepted[request];
            }
        }

        private int startOf(int request) {
            if (pool.isDeparted(request)) {
                return NONE;
            }
            return pool.isAssigned(request) ? GROUPS + pool.place[request] : pool.group[request];
        }

        private boolean augment() {
            startAtGroups();
            for (int head = 0; head < queued && head < NODES; head++) {
                int end = leave(queue[head]);
                if (end != NONE) {
                    shiftAlong(end);
                    return true;
                }
            }
            return false;
        }

        private void startAtGroups() {
            queued = 0;
            for (int each = 0; each < NODES; each++) {
                seen[each] = false;
            }
            for (int group = 0; group < GROUPS; group++) {
                if (used[group] < pool.quota[group]) {
                    reach(group, NONE, NONE);
                }
            }
        }

        private void reach(int to, int from, int request) {
            if (!seen[to] && queued < NODES) {
                seen[to] = true;
                before[to] = from;
                carried[to] = request;
                queue[queued] = to;
                queued++;
            }
        }

        /** Answers a resource with room that a step from here reaches, or NONE. */
        private int leave(int from) {
            for (int request = 0; request < pool.requests; request++) {
                if (node[request] == from) {
                    int end = leaveWith(from, request);
                    if (end != NONE) {
                        return end;
                    }
                }
            }
            return NONE;
        }

        private int leaveWith(int from, int request) {
            for (int resource = 0; resource < pool.resources; resource++) {
                if (hasBit(accepted[request], resource)) {
                    reach(GROUPS + resource, from, request);
                    if (load[resource] < pool.capacity[resource]) {
                        return GROUPS + resource;
                    }
                }
            }
            if (from >= GROUPS) {
                // A request that flows no more leaves its place in the quota to another one of its group.
                reach(pool.group[request], from, request);
            }
            return NONE;
        }

        private void shiftAlong(int end) {
            load[end - GROUPS]++;
            int to = end;
            for (int step = 0; step < NODES && before[to] != NONE; step++) {
                node[carried[to]] = to;
                to = before[to];
            }
            used[to]++;
        }
    }
}
