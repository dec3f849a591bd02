import java.util.ArrayList;
import java.util.Collections;
import java.util.Comparator;
import java.util.List;
import java.util.NoSuchElementException;

/**
 * The document written down a second time, by other means than the class uses: it looks at all paths one by one, and
 * it finds the greatest possible number by the smallest cut. Slow, and meant for small cases.
 */
final class Model {

    private static final class Request {
        final int number;
        final int group;
        int mask;
        String state = "waiting";
        int resource = -1;
        int moves;

        Request(int number, int group, int mask) {
            this.number = number;
            this.group = group;
            this.mask = mask;
        }

        boolean accepts(int resource) {
            return (mask & (1 << resource)) != 0;
        }

        boolean is(String what) {
            return state.equals(what);
        }
    }

    private final List<Integer> capacities = new ArrayList<>();
    private final List<Request> requests = new ArrayList<>();
    private final List<int[]> log = new ArrayList<>();
    private final int[] quota = {40, 40, 40, 40};
    private final int[] weight = {1, 1, 1, 1};
    private int pathLimit = 2;
    private int moveLimit = 3;

    int addResource(int capacity) {
        refuseUnless(capacity >= 0 && capacity <= 4);
        if (capacities.size() == 12) {
            throw new IllegalStateException();
        }
        log.clear();
        capacities.add(capacity);
        run();
        return capacities.size() - 1;
    }

    int setCapacity(int resource, int capacity) {
        indexWithin(resource, capacities.size());
        refuseUnless(capacity >= 0 && capacity <= 4);
        log.clear();
        capacities.set(resource, capacity);
        int back = putBackGreatest(assignedTo(resource), capacity);
        run();
        return back;
    }

    int setGroup(int group, int itsQuota, int itsWeight) {
        indexWithin(group, 4);
        refuseUnless(itsQuota >= 0 && itsQuota <= 40 && itsWeight >= 1 && itsWeight <= 10);
        log.clear();
        quota[group] = itsQuota;
        weight[group] = itsWeight;
        int back = putBackGreatest(assignedIn(group), itsQuota);
        run();
        return back;
    }

    int setLimits(int path, int move) {
        refuseUnless(path >= 0 && path <= 5 && move >= 0 && move <= 20);
        log.clear();
        pathLimit = path;
        moveLimit = move;
        return run();
    }

    int arrive(int group, int mask) {
        indexWithin(group, 4);
        refuseUnless(isMask(mask));
        if (requests.size() == 40) {
            throw new IllegalStateException();
        }
        log.clear();
        Request request = new Request(requests.size(), group, mask);
        requests.add(request);
        place(request);
        return request.number;
    }

    int depart(int number) {
        Request request = present(number);
        log.clear();
        request.state = "departed";
        return run();
    }

    boolean setAccepts(int number, int mask) {
        Request request = present(number);
        refuseUnless(isMask(mask));
        log.clear();
        request.mask = mask;
        if (request.is("assigned") && !request.accepts(request.resource)) {
            request.state = "waiting";
        }
        run();
        return request.is("assigned");
    }

    int resourceCount() {
        return capacities.size();
    }

    int arrivedCount() {
        return requests.size();
    }

    int assignedCount() {
        return (int) requests.stream().filter(r -> r.is("assigned")).count();
    }

    int waitingCount() {
        return (int) requests.stream().filter(r -> r.is("waiting")).count();
    }

    int assignedOf(int group) {
        indexWithin(group, 4);
        return assignedIn(group).size();
    }

    int load(int resource) {
        indexWithin(resource, capacities.size());
        return assignedTo(resource).size();
    }

    int state(int number) {
        indexWithin(number, requests.size());
        return List.of("waiting", "assigned", "departed").indexOf(requests.get(number).state);
    }

    int resourceOf(int number) {
        indexWithin(number, requests.size());
        if (!requests.get(number).is("assigned")) {
            throw new NoSuchElementException();
        }
        return requests.get(number).resource;
    }

    int movesOf(int number) {
        indexWithin(number, requests.size());
        return requests.get(number).moves;
    }

    int moveCount() {
        return log.size();
    }

    int movedRequest(int index) {
        indexWithin(index, log.size());
        return log.get(index)[0];
    }

    int movedTo(int index) {
        indexWithin(index, log.size());
        return log.get(index)[1];
    }

    int movesNeeded(int number) {
        indexWithin(number, requests.size());
        if (!requests.get(number).is("waiting")) {
            throw new NoSuchElementException();
        }
        List<Integer> path = bestPath(requests.get(number));
        return path == null ? -1 : path.size() / 2;
    }

    int greatestPossible() {
        return smallestCut(-1);
    }

    int gainBy(int number) {
        indexWithin(number, requests.size());
        return requests.get(number).is("departed") ? 0 : smallestCut(number) - smallestCut(-1);
    }

    double fairness() {
        if (assignedCount() == 0) {
            return 1;
        }
        double s = 0;
        double q = 0;
        for (int group = 0; group < 4; group++) {
            double x = assignedOf(group) / (double) weight[group];
            s += x;
            q += x * x;
        }
        double above = s * s;
        double below = 4 * q;
        return above / below;
    }

    long digest() {
        List<Integer> numbers = new ArrayList<>(List.of(resourceCount(), arrivedCount()));
        for (int resource = 0; resource < capacities.size(); resource++) {
            numbers.addAll(List.of(capacities.get(resource), load(resource)));
        }
        for (Request request : requests) {
            numbers.addAll(List.of(state(request.number), request.moves));
            if (request.is("assigned")) {
                numbers.add(request.resource);
            }
        }
        numbers.add(log.size());
        long d = 43;
        for (int x : numbers) {
            d = d * 31 + x;
        }
        return d;
    }

    private boolean hasRoomSomewhere() {
        for (int resource = 0; resource < capacities.size(); resource++) {
            if (isFree(resource)) {
                return true;
            }
        }
        return false;
    }

    private int run() {
        List<Request> left = new ArrayList<>(requests.stream().filter(r -> r.is("waiting")).toList());
        int placed = 0;
        while (!left.isEmpty()) {
            Request next = Collections.min(left, Comparator
                    .comparing((Request r) -> 2520 / weight[r.group] * assignedIn(r.group).size())
                    .thenComparing(r -> r.group)
                    .thenComparing(r -> r.number));
            left.remove(next);
            if (place(next)) {
                placed++;
            }
        }
        return placed;
    }

    private boolean place(Request request) {
        if (assignedIn(request.group).size() >= quota[request.group]) {
            return false;
        }
        List<Integer> path = bestPath(request);
        if (path == null || path.size() / 2 > pathLimit) {
            return false;
        }
        request.state = "assigned";
        request.resource = path.get(0);
        for (int i = 1; i < path.size(); i += 2) {
            Request moved = requests.get(path.get(i));
            moved.resource = path.get(i + 1);
            moved.moves++;
            log.add(new int[] {moved.number, moved.resource});
        }
        return true;
    }

    private List<Integer> bestPath(Request request) {
        // Without an end for a path, looking at all its beginnings would only take time.
        if (!hasRoomSomewhere()) {
            return null;
        }
        for (int size = 1; size <= capacities.size(); size++) {
            List<Integer> best = firstPath(new ArrayList<>(), request, size);
            if (best != null) {
                return best;
            }
        }
        return null;
    }

    /** Goes through the paths with that many resources in ascending order. */
    private List<Integer> firstPath(List<Integer> sofar, Request last, int left) {
        for (int resource = 0; resource < capacities.size(); resource++) {
            if (!last.accepts(resource) || isOnPath(sofar, resource)) {
                continue;
            }
            List<Integer> longer = new ArrayList<>(sofar);
            longer.add(resource);
            if (left == 1) {
                if (isFree(resource)) {
                    return longer;
                }
                continue;
            }
            for (Request next : assignedTo(resource)) {
                if (next.moves < moveLimit) {
                    List<Integer> tried = new ArrayList<>(longer);
                    tried.add(next.number);
                    List<Integer> found = firstPath(tried, next, left - 1);
                    if (found != null) {
                        return found;
                    }
                }
            }
        }
        return null;
    }

    private static boolean isOnPath(List<Integer> path, int resource) {
        for (int i = 0; i < path.size(); i += 2) {
            if (path.get(i) == resource) {
                return true;
            }
        }
        return false;
    }

    private int smallestCut(int widened) {
        int all = (1 << capacities.size()) - 1;
        int least = Integer.MAX_VALUE;
        for (int cutGroups = 0; cutGroups < 16; cutGroups++) {
            for (int cutResources = 0; cutResources <= all; cutResources++) {
                int cut = 0;
                for (int group = 0; group < 4; group++) {
                    cut += (cutGroups >> group & 1) * quota[group];
                }
                for (int resource = 0; resource < capacities.size(); resource++) {
                    cut += (cutResources >> resource & 1) * capacities.get(resource);
                }
                for (Request request : requests) {
                    int mask = request.number == widened ? all : request.mask;
                    boolean leads = !request.is("departed") && (cutGroups >> request.group & 1) == 0;
                    if (leads && (mask & ~cutResources) != 0) {
                        cut++;
                    }
                }
                least = Math.min(least, cut);
            }
        }
        return least;
    }

    private static int putBackGreatest(List<Request> assigned, int allowed) {
        int back = 0;
        while (assigned.size() > allowed) {
            assigned.remove(assigned.size() - 1).state = "waiting";
            back++;
        }
        return back;
    }

    private List<Request> assignedTo(int resource) {
        return new ArrayList<>(requests.stream().filter(r -> r.is("assigned") && r.resource == resource).toList());
    }

    private List<Request> assignedIn(int group) {
        return new ArrayList<>(requests.stream().filter(r -> r.is("assigned") && r.group == group).toList());
    }

    private boolean isFree(int resource) {
        return assignedTo(resource).size() < capacities.get(resource);
    }

    private boolean isMask(int mask) {
        return mask >= 0 && mask < Math.pow(2, capacities.size());
    }

    private Request present(int number) {
        indexWithin(number, requests.size());
        if (requests.get(number).is("departed")) {
            throw new NoSuchElementException();
        }
        return requests.get(number);
    }

    private static void indexWithin(int index, int size) {
        if (index < 0 || index >= size) {
            throw new IndexOutOfBoundsException();
        }
    }

    private static void refuseUnless(boolean right) {
        if (!right) {
            throw new IllegalArgumentException();
        }
    }
}
