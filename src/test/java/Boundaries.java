import java.io.IOException;

/** A test of the boundary cases that sentences of the document name; what its parts have in common. */
abstract class Boundaries extends Scene {

    private static final int[] FAR_INDICES = {-1, Integer.MIN_VALUE, Integer.MAX_VALUE};

    /** An index of resources, groups, requests or moves is asked for. */
    interface Asked {
        Object at(MatchingService x, int index);
    }

    final Check check;
    final Sentences sentences;

    Boundaries(String test) throws IOException {
        check = new Check(test);
        sentences = new Sentences(check);
    }

    final void stands(String name, String due, MatchingService x) {
        check.due(name + ": where the requests stand", due, () -> standing(x));
    }

    final void logged(String name, String due, MatchingService x) {
        check.due(name + ": the log", due, () -> logOf(x));
    }

    /** There are so many: neither the one behind the last, nor one far away, nor a negative one. */
    final void outside(String name, int count, MatchingService x, Asked asked) {
        check.due(name + " at " + count, NO_INDEX, () -> asked.at(x, count));
        for (int index : FAR_INDICES) {
            check.due(name + " at " + index, NO_INDEX, () -> asked.at(x, index));
        }
    }
}
