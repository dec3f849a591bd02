import java.util.NoSuchElementException;

/** The examples 1 to 4 of the document, call by call. */
public final class ExamplesTest {

    private static final Check CHECK = new Check("ExamplesTest");

    public static void main(String[] args) {
        example1();
        example2();
        example3();
        example4();
        CHECK.end();
    }

    private static void example1() {
        MatchingService x = new MatchingService();
        CHECK.due("1: addResource(1)", 0, () -> x.addResource(1));
        CHECK.due("1: addResource(1)", 1, () -> x.addResource(1));
        CHECK.due("1: arrive(0, 3)", 0, () -> x.arrive(0, 3));
        CHECK.due("1: resourceOf(0)", 0, () -> x.resourceOf(0));
        CHECK.due("1: arrive(1, 1)", 1, () -> x.arrive(1, 1));
        CHECK.due("1: resourceOf(1)", 0, () -> x.resourceOf(1));
        CHECK.due("1: resourceOf(0)", 1, () -> x.resourceOf(0));
        CHECK.due("1: moveCount()", 1, () -> x.moveCount());
        CHECK.due("1: movedTo(0)", 1, () -> x.movedTo(0));
        CHECK.due("1: arrive(2, 3)", 2, () -> x.arrive(2, 3));
        CHECK.due("1: state(2)", 0, () -> x.state(2));
        CHECK.due("1: depart(0)", 1, () -> x.depart(0));
        CHECK.due("1: resourceOf(2)", 1, () -> x.resourceOf(2));
    }

    private static void example2() {
        MatchingService x = new MatchingService();
        CHECK.due("2: addResource(2)", 0, () -> x.addResource(2));
        CHECK.due("2: arrive(0, 1)", 0, () -> x.arrive(0, 1));
        CHECK.due("2: arrive(0, 1)", 1, () -> x.arrive(0, 1));
        CHECK.due("2: arrive(1, 1)", 2, () -> x.arrive(1, 1));
        CHECK.due("2: setGroup(0, 1, 1)", 1, () -> x.setGroup(0, 1, 1));
        CHECK.due("2: state(1)", 0, () -> x.state(1));
        CHECK.due("2: resourceOf(2)", 0, () -> x.resourceOf(2));
        CHECK.due("2: fairness()", 0.5, () -> x.fairness());
    }

    private static void example3() {
        MatchingService x = new MatchingService();
        CHECK.due("3: addResource(1)", 0, () -> x.addResource(1));
        CHECK.due("3: addResource(1)", 1, () -> x.addResource(1));
        CHECK.due("3: addResource(1)", 2, () -> x.addResource(1));
        CHECK.due("3: arrive(0, 3)", 0, () -> x.arrive(0, 3));
        CHECK.due("3: arrive(0, 6)", 1, () -> x.arrive(0, 6));
        CHECK.due("3: arrive(0, 1)", 2, () -> x.arrive(0, 1));
        CHECK.due("3: moveCount()", 2, () -> x.moveCount());
        CHECK.due("3: movedRequest(0)", 0, () -> x.movedRequest(0));
        CHECK.due("3: movedRequest(1)", 1, () -> x.movedRequest(1));
        CHECK.due("3: resourceOf(1)", 2, () -> x.resourceOf(1));
        CHECK.due("3: setLimits(1, 3)", 0, () -> x.setLimits(1, 3));
        CHECK.due("3: greatestPossible()", 3, () -> x.greatestPossible());
    }

    private static void example4() {
        MatchingService x = new MatchingService();
        CHECK.due("4: addResource(1)", 0, () -> x.addResource(1));
        CHECK.due("4: arrive(0, 1)", 0, () -> x.arrive(0, 1));
        CHECK.due("4: arrive(1, 1)", 1, () -> x.arrive(1, 1));
        CHECK.due("4: greatestPossible()", 1, () -> x.greatestPossible());
        CHECK.due("4: movesNeeded(1)", -1, () -> x.movesNeeded(1));
        CHECK.due("4: addResource(1)", 1, () -> x.addResource(1));
        CHECK.due("4: gainBy(1)", 1, () -> x.gainBy(1));
        CHECK.due("4: setAccepts(1, 2)", true, () -> x.setAccepts(1, 2));
        CHECK.due("4: depart(1)", 0, () -> x.depart(1));
        CHECK.due("4: depart(1)", NoSuchElementException.class, () -> x.depart(1));
    }
}
