import java.util.NoSuchElementException;

/**
 * Two towns that were told the same, but that one was asked for something that it refused: whatever they are asked
 * and told afterwards, they answer alike. No town is called more than 512 times.
 */
final class Twins {
    interface Made { Reifytown town(); }

    interface Asked { Object of(Reifytown town); }

    private interface Probe { void ask(Reifytown town, StringBuilder told); }

    private static final Probe[] PROBES = {
        Twins::readLast, Twins::readTypes, Twins::readFound, Twins::tellParents, Twins::tellInterfaces,
        Twins::tellTypes, Twins::tellMethods, Twins::tellBodies, Twins::tellSteps, Twins::tellRuns,
    };

    private Twins() {
    }

    /** The call throws just this exception, and changes nothing. */
    static void refused(String what, Class<? extends RuntimeException> due, Made made, Asked call) {
        Checks.fails(what, due, () -> call.of(made.town()));
        for (Probe probe : PROBES) {
            Reifytown asked = made.town();
            answer(() -> call.of(asked));
            Checks.same(what + " changes nothing", told(probe, asked), told(probe, made.town()));
        }
    }

    static void index(String what, Made made, Asked call) {
        refused(what, IndexOutOfBoundsException.class, made, call);
    }

    static void argument(String what, Made made, Asked call) {
        refused(what, IllegalArgumentException.class, made, call);
    }

    static void unsupported(String what, Made made, Asked call) {
        refused(what, UnsupportedOperationException.class, made, call);
    }

    static void state(String what, Made made, Asked call) {
        refused(what, IllegalStateException.class, made, call);
    }

    static void missing(String what, Made made, Asked call) {
        refused(what, NoSuchElementException.class, made, call);
    }

    static void arithmetic(String what, Made made, Asked call) {
        refused(what, ArithmeticException.class, made, call);
    }

    /** What a call answers, or which exception it throws. */
    static Object answer(Checks.Call call) {
        try {
            return call.get();
        } catch (RuntimeException e) {
            return e.getClass().getSimpleName();
        }
    }

    private static String told(Probe probe, Reifytown town) {
        StringBuilder told = new StringBuilder();
        probe.ask(town, told);
        return told.toString();
    }

    private static void add(StringBuilder told, Checks.Call call) {
        told.append(answer(call)).append(' ');
    }

    // ---- what is asked

    private static void readLast(Reifytown town, StringBuilder told) {
        add(told, town::returned);
        add(told, town::number);
        add(told, town::unhandled);
        add(told, town::outputs);
        for (int i = 0; i < Math.min(30, town.outputs()); i++) {
            int at = i;
            add(told, () -> town.output(at));
        }
        add(told, town::steps);
        add(told, town::pieces);
        add(told, town::calls);
        add(told, town::boxes);
        add(told, town::finals);
        add(told, town::allSteps);
        add(told, town::pieceShare);
        add(told, town::meanSteps);
        for (int i = 0; i < 2 * town.types(); i++) {
            int at = i;
            add(told, () -> town.staticOf(at / 2, at % 2));
        }
    }

    private static void readTypes(Reifytown town, StringBuilder told) {
        add(told, town::types);
        for (int i = 0; i < 15 * 15; i++) {
            int at = i;
            add(told, () -> town.isBelow(at / 15, at % 15));
        }
    }

    private static void readFound(Reifytown town, StringBuilder told) {
        for (int i = 0; i < 5 * 60; i++) {
            int at = i;
            add(told, () -> town.found(4 + at / 60, at / 6 % 10, at % 6));
        }
    }

    // ---- what is told

    private static void tellParents(Reifytown town, StringBuilder told) {
        for (int i = 0; i < 10 * 10 * 3; i++) {
            int at = i;
            add(told, () -> town.setParent(at / 30, at / 3 % 10, at % 3 - 2));
        }
    }

    private static void tellInterfaces(Reifytown town, StringBuilder told) {
        for (int i = 0; i < 10 * 10 * 3; i++) {
            int at = i;
            add(told, () -> town.addInterface(at / 30, at / 3 % 10, at % 3 - 2));
        }
    }

    private static void tellTypes(Reifytown town, StringBuilder told) {
        for (int i = 0; i < 10 * 11; i++) {
            int at = i;
            add(told, () -> town.type(at / 11, at % 11 - 1));
        }
        for (int i = 0; i < 11; i++) {
            add(told, () -> town.addKind('c', true, '=', 'r'));
        }
        add(told, town::types);
    }

    private static void tellMethods(Reifytown town, StringBuilder told) {
        for (int i = 0; i < 10 * 6; i++) {
            int at = i;
            add(told, () -> town.addMethod(at / 6, at % 6, 'v', 0));
            add(told, () -> town.addMethod(at / 6, at % 6, 'a', -1));
        }
        for (int i = 0; i < 10 * 10; i++) {
            int at = i;
            add(told, () -> town.tell(at / 10, at % 10, 0, 0));
            add(told, () -> town.tell(at / 10, at % 10, 1, 0));
        }
        for (int i = 0; i < 10; i++) {
            int at = i;
            add(told, () -> town.setReady(at, -1));
        }
    }

    private static void tellBodies(Reifytown town, StringBuilder told) {
        for (int i = 0; i < 15; i++) {
            add(told, town::addBody);
        }
        for (int i = 0; i < 14 * 5; i++) {
            int at = i;
            add(told, () -> town.addRegion(at / 5, 0, 0, 'c', -1, 1));
        }
        tellRuns(town, told);
    }

    private static void tellSteps(Reifytown town, StringBuilder told) {
        for (int i = 0; i < 14 * 3; i++) {
            int at = i;
            add(told, () -> town.addStep(at / 3, 'p', 1, 0, 0, 0));
        }
        tellRuns(town, told);
    }

    private static void tellRuns(Reifytown town, StringBuilder told) {
        for (int i = 0; i < 7; i++) {
            int at = i;
            add(told, () -> town.run(at, 7));
            add(told, town::returned);
            add(told, town::number);
            add(told, town::unhandled);
            add(told, town::outputs);
            add(told, () -> town.output(town.outputs() - 1));
            add(told, town::steps);
            add(told, town::finals);
        }
        add(told, town::allSteps);
        add(told, town::meanSteps);
    }
}
