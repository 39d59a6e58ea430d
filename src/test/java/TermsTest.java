/**
 * Each sentence under 'Terms' of the document, in its order, with at least one check that fails if it is broken. A check
 * bears the first words of its sentence. Bounds and rarer cases stand in the other tests.
 */
public final class TermsTest {
    /** What all runs here have as their argument. */
    private static final int SEVEN = 7;

    private TermsTest() {
    }

    public static void main(String[] args) {
        kinds();
        types();
        typesBelow();
        values();
        structuresGoAsCopies();
        methods();
        defaultsAndTold();
        callsThroughClasses();
        callsThroughInterfaces();
        defaultsThatDecide();
        receivers();
        code();
        typesInSteps();
        typesOfMethods();
        pieces();
        stepsOnNumbers();
        stepsOnFields();
        stepsThatCall();
        iterators();
        staticSteps();
        delegates();
        stepsThatEnd();
        orderOfFaults();
        faultsOfNull();
        faultsOfBoxesAndKinds();
        faultsOfIterators();
        faultsOfTypes();
        faultsOfDepth();
        regions();
        handlers();
        filters();
        unhandled();
        doneAtLast();
        doneAtLastOnEachWayOut();
        takenPlaces();
        statics();
        spoiltStatics();
        runs();
        exceptions();
        Checks.close("TermsTest");
    }

    private static int body(Reifytown town, String... steps) {
        return Checks.body(town, steps);
    }

    /** A body that returns a number. */
    private static int returning(Reifytown town, int number) {
        return body(town, "= 2 " + number, "r 2");
    }

    /** Adds a body, runs it, and holds what the run tells against what is due. */
    private static void says(String what, Reifytown town, String due, String... steps) {
        Checks.runs(what, town, body(town, steps), SEVEN, due);
    }

    private static void same(String what, Object got, Object want) {
        Checks.same(what, got, want);
    }

    // ---- Kinds

    private static void kinds() {
        Reifytown full = new Reifytown();
        for (int i = 0; i < 10; i++) {
            same("At most 10 kinds are numbered from 0", full.addKind("csi".charAt(i % 3), false, '=', '-'), i);
        }
        Checks.state("At most 10 kinds", () -> full.addKind('c', false, '=', '-'));
        Checks.argument("'c' a class, 's' a structure, 'i' an interface", () -> new Reifytown().addKind('k', false, '=', '-'));
        Reifytown town = Towns.of("i+-", "i--", "i=-", "c=v", "c=r", "c=-", "s=-", "c", "i");
        Checks.argument("all others have '='", () -> town.addKind('c', true, '+', '-'));
        Checks.argument("all others have '=': structures", () -> town.addKind('s', true, '-', '-'));
        Checks.argument("all others have '=': without a parameter", () -> town.addKind('i', false, '+', '-'));
        Checks.argument("A kind has a parameter, or none", () -> town.type(7, 0));
        Checks.argument("A kind has a parameter, or none: one", () -> town.type(5, -1));
        Checks.unsupported("limited to values, 'v'", () -> town.type(3, 1));
        Checks.unsupported("to references, 'r'", () -> town.type(4, 0));
        same("limited to values allows int", town.type(3, 0), 2);
        same("to references allows object", town.type(4, 1), 3);
        same("or not at all, int", town.type(5, 0), 4);
        same("or not at all, object", town.type(5, 1), 5);
        Checks.argument("A class has a parent, which is another class", () -> town.setParent(7, 7, -1));
        Checks.argument("which is another class, no structure", () -> town.setParent(7, 6, 0));
        Checks.argument("with a lower number", () -> town.setParent(5, 7, -1));
        same("or object", town.isBelow(2, 1), true);
        Checks.argument("interfaces, with lower numbers", () -> town.addInterface(7, 8, -1));
        for (int i = 0; i < 3; i++) {
            same("a kind has at most 3 interfaces", town.addInterface(8, i, 0), i + 1);
        }
        int more = town.addKind('i', false, '=', '-');
        for (int i = 0; i < 3; i++) {
            town.addInterface(more, i, 0);
        }
        Checks.state("at most 3 interfaces", () -> town.addInterface(more, 8, -1));
        same("which an interface extends and others have: a structure", town.addInterface(6, 0, -2), 1);
        Checks.argument("the own parameter, if that has a parameter", () -> Towns.of("i", "c=-").addInterface(1, 0, -2));
        Checks.argument("is the own parameter: it has none", () -> town.addInterface(7, 0, -2));
        same("is the own parameter, or a type", town.addInterface(7, 0, 3), 1);
        Checks.index("or a type: that is there", () -> town.addInterface(7, 1, 60));
    }

    // ---- Types

    private static void types() {
        Reifytown town = Towns.of("i=-", "c=-", "c", "s=-");
        same("The type 0 is int, the type 1 object", town.types(), 2);
        says("The type 0 is int", town, "rn0", "d 2 0", "r 2");
        says("the type 1 object", town, "r0", "d 2 1", "r 2");
        Checks.argument("A type of a kind has an argument, if the kind has a parameter", () -> town.type(1, -1));
        town.setParent(2, 1, 0);
        town.addInterface(2, 0, 0);
        same("numbers in the order in which they are made", town.type(2, -1), 2);
        same("those of parents and interfaces are looked at without being made", town.types(), 3);
        town.addMethod(1, 0, 'v', body(town, "r 1"));
        says("looked at without being made: by a call", town, "rn7", "N 2 2", "C 3 2 10 1", "r 3");
        same("looked at without being made: by a call, none", town.types(), 3);
        says("by steps", town, "rs", "N 2 -5", "N 3 -3", "r 2");
        same("made by type() and by steps", town.types(), 5);
        same("the same kind with the same argument is the same type", town.type(3, 0), 3);
        same("in the order in which they are made for the first time", town.type(1, 0), 4);
        same("with another argument it is another type", town.type(1, 1), 5);
        Reifytown full = Towns.fullOfTypes();
        same("at most 60 are made", full.types(), 60);
        Checks.state("at most 60 are made, by type()", () -> full.type(0, -1));
        says("at most 60 are made, by steps", full, "u6", "d 2 -5");
        Reifytown deep = Towns.of("c=-");
        for (int i = 2; i < 6; i++) {
            same("The depth of a type is 1 more than that of its argument", deep.type(0, i == 2 ? 0 : i - 1), i);
        }
        Checks.state("and at most 5", () -> deep.type(0, 5));
        Reifytown values = Towns.of("s", "c", "i", "c=v", "c=r");
        for (int kind = 0; kind < 3; kind++) {
            values.type(kind, -1);
        }
        for (int type = 0; type < 5; type++) {
            int argument = type;
            boolean isValue = type == 0 || type == 2;
            String what = "Int and types of structures are values, all others references: " + type;
            Checks.same(what, Twins.answer(() -> values.type(3, argument)) instanceof Integer, isValue);
            Checks.same(what, Twins.answer(() -> values.type(4, argument)) instanceof Integer, !isValue);
        }
    }

    private static void typesBelow() {
        // Kinds 0, 1, 2 interfaces of each variance, 3 a class, 4 one below it, 5 a structure, 6 and 7 classes with a parameter.
        Reifytown town = Towns.of("i+-", "i--", "i=-", "c", "c", "s", "c=-", "c=-");
        town.setParent(4, 3, -1);
        town.setParent(7, 6, -2);
        town.addInterface(6, 0, -2);
        int above = town.type(3, -1);
        int below = town.type(4, -1);
        int value = town.type(5, -1);
        int[][] of = new int[3][];
        for (int kind = 0; kind < 3; kind++) {
            of[kind] = new int[] {town.type(kind, above), town.type(kind, below), town.type(kind, value), town.type(kind, 1)};
        }
        for (int type = 0; type < town.types(); type++) {
            same("below another one if it is the same", town.isBelow(type, type), true);
            same("or that is object", town.isBelow(type, 1), true);
            same("object is below no other one", town.isBelow(1, type), type == 1);
        }
        same("or if the type of its parent is", town.isBelow(below, above), true);
        same("not the other way round", town.isBelow(above, below), false);
        int six = town.type(6, below);
        int seven = town.type(7, below);
        same("the argument put in for its parameter", town.isBelow(seven, six), true);
        same("the argument put in, no other one", town.isBelow(seven, town.type(6, above)), false);
        same("or one of its interfaces", town.isBelow(seven, of[0][1]), true);
        same("one of its interfaces is below another type", town.isBelow(seven, of[0][0]), true);
        same("classes do not fit by a variance", town.isBelow(six, town.type(6, 1)), false);
        boolean[][] due = {{true, false}, {false, true}, {false, false}};
        for (int kind = 0; kind < 3; kind++) {
            same("for '+' the first one is below the other one, " + kind, town.isBelow(of[kind][1], of[kind][0]), due[kind][0]);
            same("for '-' the other way round, " + kind, town.isBelow(of[kind][0], of[kind][1]), due[kind][1]);
            same("both are references, " + kind, town.isBelow(of[kind][2], of[kind][3]), false);
            same("both are references, the other way round, " + kind, town.isBelow(of[kind][3], of[kind][2]), false);
        }
    }

    // ---- Values of code

    /** Types 2 of a class and 3 of a structure; name 0 of the class returns the argument. */
    private static Reifytown simple() {
        Reifytown town = Towns.of("c", "s");
        town.type(0, -1);
        town.type(1, -1);
        town.addMethod(0, 0, 'v', body(town, "r 1"));
        return town;
    }

    private static void values() {
        String[][] made = {{"r0", ": 3 5"}, {"rn7", ": 3 1"}, {"rs", "N 3 3"}, {"ro", "N 3 2"}, {"rb", "B 3 1"},
            {"rd", "D 3 2 0"}, {"ri", "G 3 2 0 1"}};
        for (String[] value : made) {
            says("A local holds " + value[0], simple(), value[0], "N 2 2", value[1], "r 3");
            says("or field holds " + value[0], simple(), value[0], "N 2 2", value[1], "N 4 2", "! 3 4 2", ". 5 4 2", "r 5");
            says("a field of a structure holds " + value[0], simple(), value[0], "N 2 2", value[1], "N 4 3", "! 3 4 2",
                ". 5 4 2", "r 5");
        }
        for (int type = 2; type < 4; type++) {
            says("have 3 fields, 0 at first", simple(), "r0 0 0 0", "N 2 " + type, ". 3 2 0", "p 3", ". 3 2 1", "p 3",
                ". 3 2 2", "p 3");
        }
        says("A box has a copy of a number", simple(), "rn7", "B 2 1", "= 1 8", "U 3 2 0", "r 3");
        says("A box has a copy of a structure", simple(), "rn0", "N 2 3", "B 3 2", "! 1 2 0", "U 4 3 3", ". 5 4 0", "r 5");
        says("What 'd' makes of a type is 0 for int", simple(), "rn0", "d 2 0", "r 2");
        says("a structure with fields 0", simple(), "rs 0 0 0", "d 2 3", ". 3 2 0", "p 3", ". 3 2 1", "p 3", ". 3 2 2",
            "p 3", "r 2");
        says("or null", simple(), "r0", "d 2 2", "r 2");
    }

    private static void structuresGoAsCopies() {
        String what = "copied whenever it goes somewhere: ";
        says(what + "a local", simple(), "rn0", "N 2 3", ": 3 2", "! 1 3 0", ". 4 2 0", "r 4");
        says(what + "into a field", simple(), "rn0", "N 2 3", "N 3 2", "! 2 3 0", "! 1 2 0", ". 4 3 0", ". 5 4 0", "r 5");
        says(what + "out of a field", simple(), "rn0", "N 2 3", "N 3 2", "! 2 3 0", ". 4 3 0", "! 1 4 0", ". 4 3 0",
            ". 5 4 0", "r 5");
        says(what + "into a static", simple(), "rn0", "N 2 3", "s 2 3 0", "! 1 2 0", "S 4 3 0", ". 5 4 0", "r 5");
        says(what + "out of a static", simple(), "rn0", "N 2 3", "s 2 3 0", "S 4 3 0", "! 1 4 0", "S 4 3 0", ". 5 4 0", "r 5");
        says(what + "out of a box", simple(), "rn0", "N 2 3", "B 3 2", "U 4 3 3", "! 1 4 0", "U 4 3 3", ". 5 4 0", "r 5");
        Reifytown town = simple();
        town.addMethod(0, 1, 'v', body(town, "= 2 9", "! 2 1 0", "r 1"));
        says(what + "an argument", town, "rn9 0", "N 2 2", "N 3 3", "C 4 2 1 3", ". 5 3 0", "p 5", ". 5 4 0", "r 5");
        town.addMethod(0, 2, 'v', body(town, "r 1"));
        says(what + "what is returned", town, "rn0", "N 2 2", "N 3 3", "C 4 2 2 3", "! 1 4 0", ". 5 3 0", "r 5");
        town.addMethod(0, 3, 'v', body(town, "N 2 3", "y 2", "! 1 2 0", "y 2"));
        says(what + "what is given", town, "rn7 0", "N 2 2", "G 3 2 3 1", "E 4 3 5", "E 4 3 2", ". 4 5 0", "p 4",
            ". 4 2 0", "r 4");
    }

    // ---- Methods

    private static void methods() {
        for (int name : new int[] {-1, 6}) {
            Checks.argument("There are the names 0 to 5", () -> simple().addMethod(0, name, 'v', 0));
            Checks.argument("There are the names 0 to 5", () -> simple().found(2, 0, name));
        }
        Reifytown each = Towns.of("c");
        each.type(0, -1);
        for (int name = 0; name < 6; name++) {
            int at = name;
            same("A kind can have a method for each name", each.addMethod(0, name, 'v', returning(each, name)), name + 1);
            Checks.state("a method for each name, not two", () -> each.addMethod(0, at, 'n', 0));
        }
        for (int name = 0; name < 6; name++) {
            same("with a body", each.found(2, 0, name), name);
        }
        for (char letter : "vonadcx".toCharArray()) {
            for (int kind = 1; kind < 4; kind++) {
                Reifytown town = Towns.of("c", "c", "s", "i");
                town.setParent(1, 0, -1);
                town.addMethod(0, 0, 'v', town.addBody());
                int at = kind;
                Object got = Twins.answer(() -> town.addMethod(at, 0, letter, letter == 'a' ? -1 : 0));
                boolean isTaken = (kind == 3 ? "ad" : kind == 2 ? "vn" : "von").indexOf(letter) >= 0;
                same("in classes and structures 'v', 'o', 'n', in interfaces 'a', 'd': " + letter + kind,
                    got instanceof Integer, isTaken);
            }
        }
        // Kinds 0, 1, 2: each the parent of the next one, of the types 2, 3, 4; the body of a method has the number of its kind.
        Reifytown town = Towns.of("c", "c", "c");
        town.setParent(1, 0, -1);
        town.setParent(2, 1, -1);
        for (int kind = 0; kind < 3; kind++) {
            town.type(kind, -1);
            town.addBody();
        }
        town.addMethod(0, 0, 'v', 0);
        town.addMethod(1, 0, 'v', 1);
        same("'v', a new slot", town.found(3, 0, 0), 0);
        same("'v', a new slot, found through its kind", town.found(3, 1, 0), 1);
        town.addMethod(2, 0, 'o', 2);
        same("'o', the slot that its parent's chain has nearest", town.found(4, 1, 0), 2);
        same("nearest, not another one", town.found(4, 0, 0), 0);
        town.addMethod(0, 1, 'v', 0);
        town.addMethod(2, 1, 'o', 2);
        town.addMethod(1, 1, 'n', 1);
        same("methods 'n' left out", town.found(4, 0, 1), 2);
        same("throws away the old body for its objects", town.found(4, 0, 1), 2);
        same("for its objects, not for those of its parent", town.found(3, 0, 1), 0);
        same("'n', which has no slot", town.found(4, 1, 1), 1);
        Checks.unsupported("'n', which has no slot to take", () -> {
            Reifytown other = Towns.of("c", "c");
            other.setParent(1, 0, -1);
            other.addMethod(0, 0, 'n', other.addBody());
            return other.addMethod(1, 0, 'o', 0);
        });
    }

    private static void defaultsAndTold() {
        Reifytown town = Towns.of("i", "i", "c", "c");
        town.addInterface(1, 0, -1);
        town.addInterface(2, 0, -1);
        town.addInterface(3, 1, -1);
        town.type(2, -1);
        town.type(3, -1);
        for (int i = 0; i < 4; i++) {
            town.addBody();
        }
        town.addMethod(0, 0, 'a', -1);
        same("'a', without a body", town.found(2, 0, 0), -1);
        town.addMethod(0, 1, 'd', 1);
        same("'d', a default", town.found(2, 0, 1), 1);
        town.addMethod(2, 2, 'v', 0);
        town.tell(2, 0, 2, 2);
        same("it is found by this interface alone", town.found(2, 0, 2), 2);
        same("by this interface alone, not through the class", town.found(2, 2, 2), 0);
        Checks.unsupported("an interface that it has", () -> town.tell(2, 1, 0, 0));
        same("by itself or through others", town.tell(3, 0, 2, 3), 1);
        same("by itself or through others: found", town.found(3, 0, 2), 3);
        town.tell(1, 0, 1, 2);
        same("it is a more special default of one that it extends", town.found(3, 0, 1), 2);
        same("a more special default, not for others", town.found(2, 0, 1), 1);
    }

    private static void callsThroughClasses() {
        Reifytown town = Towns.of("c", "c", "c", "c");
        for (int kind = 0; kind < 4; kind++) {
            if (kind > 0) {
                town.setParent(kind, kind - 1, -1);
            }
            town.type(kind, -1);
            town.addBody();
        }
        town.addMethod(0, 0, 'v', 0);
        town.addMethod(2, 0, 'o', 2);
        same("finds the nearest method of this name from there up", town.found(3, 1, 0), 0);
        same("nearest from the kind of the receiver up", town.found(5, 1, 0), 2);
        town.addMethod(0, 1, 'v', 0);
        town.addMethod(3, 1, 'o', 3);
        town.addMethod(1, 1, 'n', 1);
        same("if that is 'n', it is the one", town.found(5, 1, 1), 1);
        same("if that is 'n', it is the one, from below too", town.found(5, 2, 1), 1);
        same("otherwise, it is the one for this slot", town.found(5, 0, 1), 3);
        town.addMethod(0, 2, 'v', 0);
        town.addMethod(1, 2, 'o', 1);
        town.addMethod(2, 2, 'v', 2);
        town.addMethod(3, 2, 'o', 3);
        same("'o' takes the slot that is nearest above it", town.found(5, 2, 2), 3);
        same("'v' begins another one", town.found(5, 1, 2), 1);
        same("'v' begins another one: the first slot", town.found(5, 0, 2), 1);
    }

    private static void callsThroughInterfaces() {
        // Kinds 0 an interface, 1 one that extends it, 2 to 5 classes, each the parent of the next one; types 2 to 5.
        Reifytown town = Towns.of("i", "i", "c", "c", "c", "c");
        town.addInterface(1, 0, -1);
        town.addInterface(3, 1, -1);
        town.addInterface(5, 0, -1);
        for (int kind = 2; kind < 6; kind++) {
            if (kind > 2) {
                town.setParent(kind, kind - 1, -1);
            }
            town.type(kind, -1);
        }
        for (int i = 0; i < 10; i++) {
            town.addBody();
        }
        same("looks from the kind of the receiver up its parents: none has it", town.found(2, 0, 0), -1);
        town.addMethod(2, 0, 'v', 2);
        same("has the interface through interfaces, and a method of this name above", town.found(3, 0, 0), 2);
        same("looks up the parents", town.found(4, 0, 0), 2);
        town.addMethod(4, 0, 'v', 4);
        same("as its own: a kind below with a new slot does not", town.found(4, 0, 0), 2);
        same("as its own: one that has it once more does", town.found(5, 0, 0), 4);
        town.addMethod(2, 1, 'v', 2);
        town.addMethod(4, 1, 'o', 4);
        same("which is called as through this kind", town.found(4, 0, 1), 4);
        town.addMethod(3, 2, 'v', 3);
        town.tell(3, 0, 2, 6);
        same("the first one that has 'x' for this interface and name", town.found(4, 0, 2), 6);
        same("for this interface, not for another one", town.found(4, 1, 2), 3);
        town.tell(3, 0, 3, 6);
        town.addMethod(5, 3, 'v', 5);
        same("the first one decides", town.found(5, 0, 3), 5);
        town.tell(5, 0, 3, 7);
        same("has 'x', or has the interface and a method", town.found(5, 0, 3), 7);
        same("the first one, from the receiver up", town.found(4, 0, 3), 6);
    }

    private static void defaultsThatDecide() {
        // Kinds 0 an interface, 1 and 2 extend it, 3 extends both, 4 and 5 classes with 1 and 2, 6 one with 3 below 4.
        Reifytown town = Towns.of("i", "i", "i", "i", "c", "c", "c", "c");
        town.addInterface(1, 0, -1);
        town.addInterface(2, 0, -1);
        town.addInterface(3, 1, -1);
        town.addInterface(3, 2, -1);
        town.addInterface(4, 1, -1);
        town.addInterface(5, 1, -1);
        town.addInterface(5, 2, -1);
        town.addInterface(6, 3, -1);
        town.setParent(7, 4, -1);
        town.addInterface(7, 2, -1);
        for (int kind = 4; kind < 8; kind++) {
            town.type(kind, -1);
        }
        for (int i = 0; i < 6; i++) {
            town.addBody();
        }
        town.addMethod(0, 0, 'd', 0);
        same("of all 'd' and 'x' for this interface and name", town.found(2, 0, 0), 0);
        town.tell(1, 0, 0, 1);
        same("the one decides whose interface extends all others", town.found(3, 0, 0), 1);
        town.tell(2, 0, 0, 2);
        same("if there is none", town.found(3, 0, 0), -1);
        same("has over all ways", town.found(5, 0, 0), -1);
        same("has over all ways: not those that it does not have", town.found(2, 0, 0), 1);
        same("extends all others with such a body: two do not", town.found(4, 0, 0), -1);
        says("if there is none, the exception 4 is thrown", town, "u4", "N 2 4", "C 3 2 0 1");
        town.tell(3, 0, 0, 3);
        same("extends all others with such a body", town.found(4, 0, 0), 3);
        same("extends all others: by interfaces that the receiver has", town.found(3, 0, 0), -1);
        town.addMethod(5, 0, 'v', 5);
        same("If none does: a class goes ahead", town.found(3, 0, 0), 5);
    }

    /** Kinds 0 a class, 1 a structure, 2 a class with a parameter, 3 one below it: types 2 to 5. */
    private static Reifytown received() {
        Reifytown town = Towns.of("c", "s", "c=-", "c=-");
        town.setParent(3, 2, 1);
        town.type(0, -1);
        town.type(1, -1);
        town.type(2, 0);
        town.type(3, 0);
        int grows = body(town, ". 2 0 0", "+ 2 2 1", "! 2 0 0", "r 2");
        for (int kind = 0; kind < 3; kind++) {
            town.addMethod(kind, 0, 'v', grows);
        }
        town.addMethod(1, 1, 'v', body(town, "C 2 0 10 1", "C 3 0 10 1", "r 3"));
        return town;
    }

    private static void receivers() {
        says("The receiver's kind is that of the object", received(), "rn7 7", "N 2 2", "C 3 2 0 1", "p 3", ". 4 2 0", "r 4");
        says("or of the structure itself: where it is", received(), "rn14 7 14", "N 2 3", "C 3 2 10 1", "p 3", "C 3 2 10 1",
            "p 3", ". 4 2 0", "r 4");
        says("of what is boxed: work on the box", received(), "rn14 7 14", "N 2 3", "B 5 2", "C 3 5 10 1", "p 3",
            "C 3 5 10 1", "p 3", "U 2 5 3", ". 4 2 0", "r 4");
        says("on the box, not on what was boxed", received(), "rn0", "N 2 3", "B 5 2", "C 3 5 10 1", ". 4 2 0", "r 4");
        says("what such a body does to the receiver's fields stays: by a call of its own", received(), "rn14 14", "N 2 3",
            "C 3 2 11 1", "p 3", ". 4 2 0", "r 4");
        says("what such a body does to the receiver's fields stays: in a box", received(), "rn14 14", "N 2 3", "B 5 2",
            "C 3 5 11 1", "p 3", "U 2 5 3", ". 4 2 0", "r 4");
        says("Int has no kind", received(), "u3", "C 3 1 0 1");
        says("boxed int has no kind", received(), "u3", "B 2 1", "C 3 2 0 1");
        says("delegates have no kind", received(), "u3", "N 2 2", "D 3 2 0", "C 4 3 0 1");
        says("iterators have no kind", received(), "u3", "N 2 2", "G 3 2 0 1", "C 4 3 0 1");
        says("A receiver that is null throws 1", received(), "u1", "C 3 5 0 1");
        says("one that is not below the static kind, 3", received(), "u3", "N 2 2", "C 3 2 20 1");
        says("whatever its argument", received(), "rn7", "N 2 5", "C 3 2 20 1", "r 3");
    }

    // ---- Code

    private static void code() {
        Reifytown town = Towns.of("c");
        town.type(0, -1);
        for (int i = 0; i < 14; i++) {
            same("At most 14 bodies are numbered from 0", town.addBody(), i);
        }
        Checks.state("At most 14 bodies", town::addBody);
        for (int i = 0; i < 24; i++) {
            same("each with at most 24 steps", town.addStep(0, 'p', 1, 0, 0, 0), i);
        }
        Checks.state("at most 24 steps", () -> town.addStep(0, 'p', 1, 0, 0, 0));
        for (int i = 0; i < 4; i++) {
            same("and 4 regions", town.addRegion(0, 0, 0, 'f', 0, 1), i + 1);
        }
        Checks.state("4 regions", () -> town.addRegion(0, 0, 0, 'f', 0, 1));
        Reifytown calls = simple();
        int null2 = body(calls, "? 5 2 3", "p 5", "? 5 2 4", "= 4 0", "p 5", "? 5 2 3", "p 5", "p 1", "r 0");
        calls.addMethod(0, 1, 'v', null2);
        calls.addMethod(0, 2, 'v', body(calls, "r 5"));
        says("A call has 6 locals, null at first", calls, "r0", "N 2 2", "C 3 2 2 1", "r 3");
        says("but 0 the receiver and 1 the argument", calls, "rn1 1 1 1 7", "N 2 2", "C 3 2 1 1", "? 4 3 2", "r 4");
        Checks.argument("6 locals", () -> calls.addStep(0, 'r', 6, 0, 0, 0));
    }

    /** A class 0 with a parameter, whose name 0 is the body; types 2 of a structure, 3 of the class with it, 4 with object. */
    private static Reifytown typed(String... steps) {
        Reifytown town = Towns.of("c=-", "s", "s=-");
        town.type(1, -1);
        town.type(0, 2);
        town.type(0, 1);
        town.addMethod(0, 0, 'v', body(town, steps));
        return town;
    }

    private static void typesInSteps() {
        says("A type in a step is a number of a type", typed("d 2 0", "r 2"), "rn0", "N 2 3", "C 3 2 0 1", "r 3");
        says("-1, the argument of the type that the method is for", typed("d 2 -1", "r 2"), "rs", "N 2 3", "C 3 2 0 1", "r 3");
        says("-1, another argument", typed("d 2 -1", "r 2"), "r0", "N 2 4", "C 3 2 0 1", "r 3");
        Reifytown town = typed("d 2 -4", "r 2");
        says("-2 less the number of a kind, for this kind with that argument", town, "rs", "N 2 3", "C 3 2 0 1", "r 3");
        same("for this kind with that argument", town.type(2, 2), 5);
        Reifytown ready = typed();
        ready.setReady(0, body(ready, "d 2 -1", "s 2 -2 0"));
        says("a body that makes statics ready is for the type of these", ready, "rs", "S 2 3 0", "r 2");
        says("is for the type of these, another one", ready, "r0", "S 2 4 0", "r 2");
        Reifytown asked = typed("x 1", "r 5");
        asked.addRegion(0, 0, 0, 'w', body(asked, "N 2 2", "T 3 2 -1", "r 3"), 1);
        says("a filter for that of its call", asked, "rn7", "N 2 3", "C 3 2 0 1", "r 3");
        Reifytown refused = typed("x 1", "r 5");
        refused.addRegion(0, 0, 0, 'w', body(refused, "d 2 -1", "r 2"), 1);
        says("a filter for that of its call, another one", refused, "u7", "N 2 4", "C 3 2 0 1", "r 3");
        says("where -1 in a step stands for int", typed(), "rn0", "d 2 -1", "r 2");
    }

    /** The default of an interface 0, of which a class has one with int and one with object, told by their ways. */
    private static void first(String what, String due, int... ways) {
        // Kinds 0 the interface, 1 and 2 have it with int and object, 3 a class with object, 4 the class.
        Reifytown town = Towns.of("i=-", "i", "i", "c", "c");
        town.addInterface(1, 0, 0);
        town.addInterface(2, 0, 1);
        town.addInterface(3, 0, 1);
        town.addMethod(0, 0, 'd', body(town, "d 2 -1", "r 2"));
        for (int way : ways) {
            if (way == 3) {
                town.setParent(4, 3, -1);
            } else {
                town.addInterface(4, way, way == 0 ? 1 : -1);
            }
        }
        town.type(4, -1);
        says(what, town, due, "N 2 2", "C 3 2 0 1", "r 3");
    }

    private static void typesOfMethods() {
        first("found in its interfaces in their order", "rn0", 1, 2);
        first("found in its interfaces in their order, the other way round", "r0", 2, 1);
        first("then in its parent", "rn0", 3, 1);
        first("then in its parent: nothing else", "r0", 3);
        first("each with all of its own", "rn0", 1, 0);
        first("looking at it, in its interfaces", "r0", 0, 1);
        Reifytown town = Towns.of("c=-", "c=-");
        town.setParent(1, 0, 1);
        town.addMethod(0, 0, 'v', body(town, "d 2 -1", "r 2"));
        town.addMethod(1, 1, 'v', 0);
        town.type(1, 0);
        says("The type that a method is for is the first one of its kind", town, "rn0", "N 2 2", "C 3 2 11 1", "r 3");
        says("of its kind: that of its parent", town, "r0", "N 2 2", "C 3 2 0 1", "r 3");
    }

    private static void pieces() {
        Reifytown town = typed("r 1");
        town.type(2, 1);
        town.type(0, 5);
        town.type(0, 3);
        town.type(0, 0);
        int all = body(town, "N 2 4", "C 3 2 0 1", "C 3 2 0 1", "N 2 7", "C 3 2 0 1", "N 2 3", "C 3 2 0 1", "N 2 6",
            "C 3 2 0 1", "N 2 8", "C 3 2 0 1");
        town.run(all, SEVEN);
        same("code of a method is shared: it is the same for all such; others have their own", town.pieces(), 4);
        town.runWritten(all, SEVEN);
        same("written out for each type", town.pieces(), 5);
        town.run(body(town, "N 2 3", "G 3 2 0 1"), SEVEN);
        same("A piece of code is made when such a method is made an iterator", town.pieces(), 1);
        same("made an iterator, which is no call", town.calls(), 0);
        town.run(body(town, "N 2 3", "D 3 2 0"), SEVEN);
        same("when it is first called, not when a delegate is made", town.pieces(), 0);
        Reifytown alike = Towns.of("i", "c", "c");
        alike.addInterface(1, 0, -1);
        alike.setParent(2, 1, -1);
        alike.type(1, -1);
        alike.type(2, -1);
        int one = body(alike, "r 1");
        alike.addMethod(1, 0, 'v', one);
        alike.tell(1, 0, 0, one);
        alike.addMethod(1, 1, 'v', one);
        alike.addMethod(2, 0, 'o', one);
        String[] steps = {"N 2 2", "C 3 2 10 1", "C 3 2 0 1", "C 3 2 11 1", "N 2 3", "C 3 2 10 1"};
        int[] due = {0, 1, 1, 2, 2, 3};
        for (int i = 0; i < steps.length; i++) {
            alike.run(body(alike, java.util.Arrays.copyOf(steps, i + 1)), SEVEN);
            same("methods of one kind with one name and one body are one: " + steps[i], alike.pieces(), due[i]);
        }
    }

    private static void stepsOnNumbers() {
        says("'=' the local a becomes the number b", simple(), "rn-5", "= 2 -5", "r 2");
        says("':' the local b", simple(), "rn7", ": 2 1", "r 2");
        says("'+' of the locals b and c", simple(), "rn10", "= 2 3", "+ 3 1 2", "r 3");
        says("'-' of the locals b and c", simple(), "rn4", "= 2 3", "- 3 1 2", "r 3");
        says("'<' 1 or 0", simple(), "rn0 1 0", "= 2 8", "< 3 1 2", "p 3", "< 3 2 1", "p 3", "< 3 1 1", "r 3");
        says("'?' the same number", simple(), "rn0 1", "= 2 7", "? 3 1 2", "p 3", "= 2 8", "? 3 1 2", "r 3");
        says("'?' the same reference", simple(), "rn0 1", "N 2 2", ": 3 2", "? 4 2 3", "p 4", "N 3 2", "? 4 2 3", "r 4");
        says("'?' or null", simple(), "rn0 1", "? 4 2 3", "p 4", "= 2 0", "? 4 2 3", "r 4");
        Reifytown town = simple();
        town.addKind('s', false, '=', '-');
        town.type(2, -1);
        says("'?' structures with fields that are the same so", town, "rn1 1 0", "N 2 3", "N 3 3", "? 4 2 3", "p 4",
            "N 5 3", "! 5 2 1", "? 4 2 3", "p 4", "! 5 3 1", "? 4 2 3", "r 4");
        for (int field = 0; field < 3; field++) {
            says("'?' fields that are the same so: " + field, town, "rn0", "N 2 3", "N 3 3", "! 1 3 " + field, "? 4 2 3", "r 4");
        }
        says("'?' structures of one type", town, "rn0", "N 2 3", "N 3 4", "? 4 2 3", "r 4");
        says("'j' goes on at b", simple(), "r0", "j 0 2", "x 1");
        says("'z' too, if the local a is the number 0", simple(), "r0", "= 2 0", "z 2 3", "x 1");
        says("'z' too, or null", simple(), "r0", "z 2 2", "x 1");
        says("'z' otherwise not", simple(), "u7", "z 1 2", "x 1");
    }

    /** Types 2 of an interface, 3 of a class and 4 of a structure that have it, 5 of another class. */
    private static Reifytown four() {
        Reifytown town = Towns.of("i", "c", "s", "c");
        town.addInterface(1, 0, -1);
        town.addInterface(2, 0, -1);
        for (int kind = 0; kind < 4; kind++) {
            town.type(kind, -1);
        }
        return town;
    }

    private static void stepsOnFields() {
        says("'N' a new object of the type b, of a class", four(), "ro", "N 2 3", "r 2");
        says("'N' a new one each time", four(), "rn0", "N 2 3", "N 3 3", "? 4 2 3", "r 4");
        says("'N' of the type b", four(), "rn0 1", "N 2 5", "T 3 2 5", "p 3", "T 3 2 3", "r 3");
        says("'N' or what 'd' makes", four(), "rs 0", "N 2 0", "p 2", "N 2 4", "r 2");
        says("'d' that", four(), "r0 0", "d 2 0", "p 2", "d 2 3", "r 2");
        says("'.' the field c of the local b, '!' this field becomes the local a", four(), "rn0 7", "N 2 3", "! 1 2 1",
            ". 3 2 1", "p 3", ". 3 2 2", "r 3");
        says("'!' this field, not the others", four(), "rn9 7 8", "N 2 4", "! 1 2 0", "= 3 8", "! 3 2 1", "= 3 9", "! 3 2 2",
            ". 3 2 0", "p 3", ". 3 2 1", "p 3", ". 3 2 2", "r 3");
        says("'B' a box of the local b", four(), "rn7 0", "B 2 1", "B 3 1", "? 4 2 3", "p 4", "U 4 2 0", "r 4");
        says("'B' or that itself, if it is no value", four(), "rn1 1", "N 2 3", "B 3 2", "? 4 2 3", "p 4", "B 3 5", "? 4 3 5",
            "r 4");
        says("'U' what is in the box b, which must be of the type c", four(), "rs", "N 2 4", "B 3 2", "U 4 3 4", "r 4");
        says("'U' must be of the type c", four(), "u2", "N 2 4", "B 3 2", "U 4 3 0");
        says("'U' the local b itself, if c is a reference that it is below", four(), "rb", "N 2 4", "B 3 2", "U 4 3 2", "r 4");
        says("'U' a reference that it is not below", four(), "u2", "N 2 3", "U 4 2 5", "r 4");
        says("'U' or it is null", four(), "r0", "U 4 3 5", "r 4");
        says("'T' an object of a type below c", four(), "rn0 1", "N 2 3", "T 3 2 2", "p 3", "T 3 2 5", "r 3");
        says("'T' a box of a type below c", four(), "rn0 1", "N 2 4", "B 2 2", "T 3 2 2", "p 3", "T 3 2 3", "r 3");
        says("'T' or a value of such a type", four(), "rn0 1 1", "N 2 4", "T 3 2 2", "p 3", "T 3 1 0", "p 3", "T 3 1 4", "r 3");
        says("'T' otherwise 0", four(), "rn0", "T 3 2 1", "r 3");
    }

    private static void stepsThatCall() {
        Reifytown town = Towns.of("c", "c", "s");
        town.setParent(1, 0, -1);
        for (int kind = 0; kind < 3; kind++) {
            town.type(kind, -1);
        }
        town.addMethod(0, 3, 'v', body(town, "r 1"));
        town.addMethod(1, 3, 'v', body(town, "r 0"));
        says("'C' through the kind c / 10 the name c % 10", town, "ro 7", "N 2 3", "C 3 2 3 1", "p 3", "C 3 2 13 1", "r 3");
        says("'C' with the local d as the argument; the local a becomes what it returns", town, "rn9", "N 2 2", "= 4 9",
            "C 5 2 3 4", "r 5");
        int counts = body(town, ". 2 0 0", "+ 2 2 1", "! 2 0 0", "y 2", "j 0 0");
        town.addMethod(0, 4, 'v', counts);
        town.addMethod(2, 4, 'v', counts);
        says("'G' an iterator of it, which has not begun", town, "rn0", "N 2 2", "G 3 2 4 1", ". 4 2 0", "r 4");
        says("'G' through the kind and name, with the argument", town, "rn7", "N 2 2", "G 3 2 4 1", "E 4 3 5", "r 5");
        says("'G' a structure is copied for it", town, "rn0 7", "N 2 4", "G 3 2 24 1", "E 4 3 5", "p 5", ". 5 2 0", "r 5");
        says("'G' an object is not", town, "rn7", "N 2 2", "G 3 2 4 1", "E 4 3 5", ". 5 2 0", "r 5");
    }

    private static void iterators() {
        Reifytown town = simple();
        int gives = body(town, "y 1", "= 2 8", "y 2", "p 2", "r 2", "p 1", "e");
        town.addRegion(gives, 2, 2, 'f', 0, 5);
        town.addMethod(0, 1, 'v', gives);
        says("'E' lets the iterator in the local b go on: the local a becomes 1, and the local c what it gives", town,
            "rn8 1 7 1", "N 2 2", "G 3 2 1 1", "E 4 3 5", "p 4", "p 5", "E 4 3 5", "p 4", "r 5");
        says("'E' or 0 at its end, or if it is over", town, "rn0 8 0", "N 2 2", "G 3 2 1 1", "E 4 3 5", "E 4 3 5", "E 4 3 5",
            "p 4", "E 4 3 5", "r 4");
        says("'E' two of one method stand for themselves", town, "rn7", "N 2 2", "G 3 2 1 1", "E 4 3 5", "G 0 2 1 1",
            "E 4 0 5", "r 5");
        says("'Q' the iterator in the local a is over", town, "rn0", "N 2 2", "G 3 2 1 1", "E 4 3 5", "Q 3", "E 4 3 5", "r 4");
        says("'Q' what it still has to do at last is done", town, "r0 7", "N 2 2", "G 3 2 1 1", "E 4 3 5", "E 4 3 5", "Q 3");
        same("'Q' at last, once", town.finals(), 1);
        says("'y' gives the local a from an iterator", town, "rn8", "N 2 2", "G 3 2 1 1", "E 4 3 5", "E 4 3 5", "r 5");
    }

    private static void staticSteps() {
        Reifytown town = simple();
        says("'S' the static c of the type b, 's' this static becomes the local a", town, "rn0 7 8 0", "s 1 2 0", "= 3 8",
            "s 3 2 1", "S 4 2 0", "p 4", "S 4 2 1", "p 4", "S 4 3 0", "p 4", "S 4 3 1", "r 4");
        same("'s' the static 0", town.staticOf(2, 0), 7);
        same("'s' the static 1", town.staticOf(2, 1), 8);
    }

    private static void delegates() {
        Reifytown town = Towns.of("c", "c", "s");
        town.setParent(1, 0, -1);
        for (int kind = 0; kind < 3; kind++) {
            town.type(kind, -1);
        }
        town.addMethod(0, 0, 'v', body(town, "p 1", "= 2 50", "r 2"));
        town.addMethod(0, 1, 'v', body(town, "= 2 51", "p 2", "r 2"));
        town.addMethod(1, 0, 'v', body(town, "= 2 60", "p 2", "r 2"));
        int grows = body(town, ". 2 0 0", "+ 2 2 1", "! 2 0 0", "p 2");
        town.addMethod(2, 0, 'v', grows);
        says("'D' one target: through the kind c / 10 the name c % 10", town, "rn60 7 60", "N 2 3", "D 3 2 0", "I 4 3 1",
            "D 3 2 10", "I 4 3 1", "r 4");
        says("'D' of the local b, which is copied if it is a structure", town, "rn0 7 14", "N 2 4", "D 3 2 20", "I 4 3 1",
            "I 4 3 1", ". 4 2 0", "r 4");
        says("'D' delegates that are made of others have these targets themselves", town, "r0 7 14 21", "N 2 4", "D 3 2 20",
            "P 4 3 3", "I 5 4 1", "I 5 3 1");
        says("'P' a new one with the targets of the delegates b and c", town, "rn50 51 7", "N 2 2", "D 3 2 1", "D 4 2 0",
            "P 5 3 4", "I 0 5 1", "r 0");
        says("'P' where null has none", town, "r0 51 51", "N 2 2", "D 3 2 1", "P 4 3 5", "I 0 4 1", "P 4 5 3", "I 0 4 1");
        says("'M' that of b without the last row of targets like those of c", town, "r0 7 51 7", "N 2 2", "D 3 2 0",
            "D 4 2 1", "P 5 3 4", "P 5 5 3", "P 5 5 4", "M 5 5 4", "I 0 5 1");
        says("'M' a row, not each target for itself", town, "r0 7 7 51", "N 2 2", "D 3 2 0", "D 4 2 1", "P 5 3 3", "P 5 5 4",
            "P 0 3 4", "P 0 0 3", "M 5 5 0", "I 0 5 1");
        says("'I' is called with the local c: its targets one by one", town, "r0 8 51", "N 2 2", "D 3 2 0", "D 4 2 1",
            "P 5 3 4", "= 4 8", "I 0 5 4");
        Reifytown more = Towns.of("c", "s");
        more.addMethod(0, 2, 'v', body(more, "r 0"));
        more.type(0, -1);
        more.type(1, -1);
        more.addMethod(0, 0, 'v', body(more, "p 1", "= 2 50", "r 2"));
        more.addMethod(0, 1, 'v', body(more, "= 2 51", "r 2"));
        more.addMethod(1, 0, 'v', body(more, ". 2 0 0", "+ 2 2 1", "! 2 0 0", "p 2"));
        says("'I' the local a becomes what the last one returned", more, "rn51 7", "N 2 2", "D 3 2 0", "D 4 2 1", "P 5 3 4",
            "I 0 5 1", "r 0");
        says("'I' its targets, as they are then", more, "r0 7 14", "N 2 3", "D 3 2 10", "P 3 3 3", "I 0 3 1");
        says("'D' of the local b, the receiver", more, "rn1", "N 2 2", "D 3 2 2", "I 4 3 1", "? 5 2 4", "r 5");
        says("A delegate without targets is null", more, "r0", "N 2 2", "D 3 2 0", "M 4 3 3", "r 4");
        says("the same if their receivers are the same, and their kinds and names", more, "rd", "N 2 2", "N 3 2",
            "D 4 2 0", "D 5 3 0", "M 4 4 5", "r 4");
        says("the same if their names are", more, "rd", "N 2 2", "D 4 2 0", "D 5 2 1", "M 4 4 5", "r 4");
        says("the same as by '?': structures with the same fields", more, "r0", "N 2 3", "D 4 2 10", "D 5 2 10", "M 4 4 5",
            "r 4");
        says("the same as by '?': structures with other fields", more, "rd 7", "N 2 3", "D 4 2 10", "D 5 2 10", "I 3 4 1",
            "M 4 4 5", "r 4");
        says("the same if their kinds are", more, "rd", "N 2 2", "D 4 2 0", "D 5 2 10", "M 4 4 5", "r 4");
        says("found as it is called", more, "rd", "D 4 1 0", "r 4");
    }

    private static void stepsThatEnd() {
        says("'x' throws the number in the local a", simple(), "u7", "x 1", "p 1");
        says("'r' returns the local a", simple(), "rn7", "r 1", "p 1");
        says("so does the end of a body, null", simple(), "r0", ": 2 1");
        Reifytown town = simple();
        int ends = body(town, "r 1", "p 1", "e", "p 1");
        town.addRegion(ends, 0, 0, 'f', 0, 1);
        Checks.runs("'e' ends what is done at last", town, ends, SEVEN, "rn7 7");
        says("'p' puts the number in the local a out", simple(), "r0 7 8", "p 1", "= 2 8", "p 2");
    }

    // ---- Exceptions of code

    private static void orderOfFaults() {
        says("a null receiver comes ahead of a static kind", simple(), "u1", "C 3 5 90 1");
        says("a type in the step ahead of a value: 3 ahead of 1", simple(), "u3", "U 3 5 60");
        says("a type in the step ahead of a value: 3 ahead of 2", simple(), "u3", "U 3 1 60");
        says("ahead of a value: 1 alone", simple(), "u1", "U 3 5 0");
    }

    private static void faultsOfNull() {
        says("1 for null as a receiver", simple(), "u1", "C 3 5 0 1");
        says("1 for null as a receiver of an iterator", simple(), "u1", "G 3 5 0 1");
        says("1 for null as a receiver of a target", simple(), "u1", "D 3 5 0", "I 4 3 1");
        says("1 as what has fields", simple(), "u1", ". 3 5 0");
        says("1 as what has fields, '!'", simple(), "u1", "! 1 5 0");
        says("1 as a delegate that is called", simple(), "u1", "I 3 5 1");
        says("1 as an iterator, 'E'", simple(), "u1", "E 3 5 4");
        says("1 as an iterator, 'Q'", simple(), "u1", "Q 5");
        says("1 or in 'U' of a value", simple(), "u1", "U 3 5 0");
        says("1 in 'U' of a value, a structure", simple(), "u1", "U 3 5 3");
    }

    private static void faultsOfBoxesAndKinds() {
        says("2 by 'U' otherwise: no box", simple(), "u2", "U 3 1 0");
        says("2 by 'U' otherwise: another type", simple(), "u2", "B 3 1", "U 3 3 3");
        says("2 by 'U' otherwise: not below", simple(), "u2", "B 3 1", "U 3 3 2");
        for (String step : new String[] {"+ 3 4 1", "- 3 1 4", "< 3 4 4", ". 3 1 0", "! 1 1 0", "E 3 1 4", "Q 1", "P 3 1 5",
            "M 3 5 1", "I 3 1 1", "C 3 1 0 1", "G 3 1 0 1"}) {
            says("3 for a wrong kind of value: " + step, simple(), "u3", "N 4 2", step);
        }
        for (String step : new String[] {"+ 3 4 1", "- 3 1 4", "< 3 4 4", "x 4", "p 4"}) {
            says("3 for null where a number is needed: " + step, simple(), "u3", step);
        }
        says("3 for a wrong static kind", simple(), "u3", "N 2 2", "C 3 2 10 1");
        says("3 for a type that is not there", simple(), "u3", "N 3 4");
        says("3 for a kind that is not there", simple(), "u3", "N 2 2", "C 3 2 20 1");
        says("3 for a kind that is not there, in a type", simple(), "u3", "N 2 -12");
        says("3 for a type that has no statics, int", simple(), "u3", "S 2 0 0");
        says("3 for a type that has no statics, object", simple(), "u3", "s 1 1 0");
        Reifytown town = simple();
        town.addKind('i', false, '=', '-');
        town.type(2, -1);
        says("3 or that 'N' cannot make", town, "u3", "N 2 4");
        town.addKind('c', false, '=', '-');
        town.addInterface(3, 2, -1);
        town.type(3, -1);
        says("4 as told", town, "u4", "N 2 5", "C 3 2 20 1");
    }

    private static void faultsOfIterators() {
        says("5 by 'y' outside iterators", simple(), "u5", "y 1");
        Reifytown town = simple();
        town.addMethod(0, 1, 'v', body(town, "y 1"));
        says("5 by 'y' outside iterators, in a method", town, "u5", "N 2 2", "C 3 2 1 1");
        town.addMethod(0, 2, 'v', body(town, "S 2 2 0", "E 3 2 4"));
        town.addMethod(0, 3, 'v', body(town, "S 2 2 0", "Q 2"));
        says("5 by 'E' of one that is going on", town, "u5", "N 2 2", "G 3 2 2 1", "s 3 2 0", "E 4 3 5");
        says("5 by 'Q' of one that is going on", town, "u5", "N 2 2", "G 3 2 3 1", "s 3 2 0", "E 4 3 5");
    }

    private static void faultsOfTypes() {
        says("6 if there would be more than 60 types", Towns.fullOfTypes(), "u6", "T 2 1 -5");
        for (int argument = 4; argument < 6; argument++) {
            Reifytown deep = Towns.of("c=-", "c");
            for (int type = 2; type < 6; type++) {
                deep.type(0, type == 2 ? 0 : type - 1);
            }
            deep.setParent(1, 0, argument);
            deep.addMethod(0, 0, 'v', body(deep, "d 2 -2"));
            deep.type(1, -1);
            says("6 one too deep: " + argument, deep, argument == 4 ? "r0" : "u6", "N 2 6", "C 3 2 0 1");
        }
        Reifytown town = Towns.of("c=r", "c");
        says("6 one with an argument that its parameter does not allow", town, "u6", "d 2 -2");
        town.type(1, -1);
        town.addMethod(1, 0, 'v', body(town, "d 2 -1"));
        town.addMethod(1, 1, 'v', body(town, "d 2 -2"));
        says("6 one by -1 where the method is for a type without an argument", town, "u6", "N 2 2", "C 3 2 10 1");
        says("6 one by less where the method is for a type without an argument", town, "u6", "N 2 2", "C 3 2 11 1");
    }

    private static void faultsOfDepth() {
        Reifytown town = simple();
        town.addMethod(0, 1, 'v', body(town, "p 1", "= 2 1", "- 1 1 2", "z 1 6", "C 3 0 1 1", "r 3", "r 1"));
        int run = body(town, "N 2 2", "C 3 2 1 1", "r 3");
        Checks.runs("6 for more than 12 calls within one another, the run's included", town, run, 11,
            "rn0 11 10 9 8 7 6 5 4 3 2 1");
        Checks.runs("6 for more than 12 calls", town, run, 12, "u6 12 11 10 9 8 7 6 5 4 3 2");
        town.addMethod(0, 2, 'v', body(town, "G 2 0 2 1", "p 1", "E 3 2 4"));
        Checks.runs("iterators that go on included", town, body(town, "N 2 2", "G 3 2 2 1", "E 4 3 5"), 3,
            "u6 3 3 3 3 3 3 3 3 3 3 3");
        town.addMethod(0, 3, 'v', body(town, "D 2 0 3", "p 1", "I 3 2 1"));
        Checks.runs("by delegates too", town, body(town, "N 2 2", "D 3 2 3", "I 4 3 1"), 3, "u6 3 3 3 3 3 3 3 3 3 3 3");
        int asks = body(town, "x 1", "r 1");
        town.addRegion(asks, 0, 0, 'w', asks, 1);
        Checks.runs("filters included", town, asks, 3, "u3");
        same("filters included: 11 of them", town.calls(), 11);
    }

    // ---- Regions

    private static void regions() {
        Reifytown town = simple();
        for (char letter : "fcwx".toCharArray()) {
            Object got = Twins.answer(() -> town.addRegion(0, 1, 1, letter, 0, 0));
            same("'f', 'c' or 'w': " + letter, got instanceof Integer, letter != 'x');
        }
        int handles = body(town, "= 2 1", "x 1", "x 1", "= 2 3", "r 5", "r 2");
        town.addRegion(handles, 1, 1, 'c', 7, 5);
        Checks.runs("a first and a last step: the first", town, handles, SEVEN, "rn1");
        int last = body(town, "j 0 2", "e", "x 1", "x 1", "r 5");
        town.addRegion(last, 1, 2, 'c', -1, 4);
        Checks.runs("a first and a last step: the last", town, last, SEVEN, "rn7");
        int outside = body(town, "j 0 3", "e", "e", "x 1", "r 5");
        town.addRegion(outside, 1, 2, 'c', -1, 4);
        Checks.runs("a first and a last step: behind it", town, outside, SEVEN, "u7");
        int number = body(town, "x 1", "r 1");
        town.addRegion(number, 0, 0, 'c', 8, 1);
        Checks.runs("'c' a handler of a number", town, number, SEVEN, "u7");
        Checks.runs("'c' a handler of a number: this one", town, number, 8, "rn8");
        int all = body(town, "x 1", "r 1");
        town.addRegion(all, 0, 0, 'c', -1, 1);
        Checks.runs("or of all, with -1", town, all, 44, "rn44");
        int at = body(town, "x 1", "p 1", "r 5");
        town.addRegion(at, 0, 0, 'c', -1, 2);
        Checks.runs("It has a place where this goes on", town, at, SEVEN, "rn7");
    }

    private static void handlers() {
        Reifytown town = simple();
        int inner = body(town, "x 1", "= 2 50", "r 2", "= 2 51", "r 2");
        town.addRegion(inner, 0, 0, 'c', 3, 1);
        town.addRegion(inner, 0, 0, 'c', -1, 3);
        town.addRegion(inner, 0, 0, 'c', 4, 1);
        town.addMethod(0, 1, 'v', inner);
        int outer = body(town, "N 2 2", "C 3 2 1 1", "r 3", "r 5");
        town.addRegion(outer, 1, 1, 'c', -1, 3);
        Checks.runs("handlers are looked for in the call", town, outer, 3, "rn50");
        Checks.runs("in the order of its regions", town, outer, 4, "rn51");
        int passes = body(town, "e", "x 1", "r 1");
        town.addRegion(passes, 0, 0, 'c', -1, 2);
        town.addMethod(0, 2, 'v', passes);
        int around = body(town, "N 2 2", "C 3 2 2 1", "r 3", "r 5");
        town.addRegion(around, 0, 0, 'c', -1, 2);
        town.addRegion(around, 1, 1, 'c', -1, 3);
        Checks.runs("and then in those around, those that have the step within", town, around, SEVEN, "rn7");
    }

    private static void filters() {
        Reifytown town = simple();
        int eight = body(town, "p 1", "= 2 8", "? 3 1 2", "r 3");
        int thrown = body(town, "x 1", "r 1");
        town.addRegion(thrown, 0, 0, 'w', eight, 1);
        Checks.runs("'w', a handler with a filter: and the number", town, thrown, 8, "rn8 8");
        Checks.runs("accepts if it returns a number other than 0", town, thrown, SEVEN, "u7 7");
        same("nothing more is done", town.steps(), 5);
        int changes = body(town, "! 1 0 0", "r 5");
        int method = body(town, "x 1", ". 2 0 0", "r 2");
        town.addRegion(method, 0, 0, 'w', changes, 1);
        town.addRegion(method, 0, 0, 'c', -1, 1);
        town.addMethod(1, 0, 'v', method);
        says("called with what the local 0 of the call is then, not copied", town, "rn7 7", "N 2 3", "C 3 2 10 1", "p 3",
            ". 4 2 0", "r 4");
        int inner = body(town, "x 1", "p 1", "e");
        town.addRegion(inner, 0, 0, 'f', 0, 1);
        town.addMethod(0, 1, 'v', inner);
        int tells = body(town, "= 2 55", "p 2", "r 1");
        int outer = body(town, "N 2 2", "C 3 2 1 1", "r 3", "r 5");
        town.addRegion(outer, 1, 1, 'w', tells, 3);
        Checks.runs("a filter is called as one is met, with all calls still under way", town, outer, SEVEN, "rn7 55 7");
        int throwing = body(town, "x 1", "r 1", "= 2 9", "r 2");
        town.addRegion(throwing, 0, 0, 'w', body(town, "x 1"), 1);
        town.addRegion(throwing, 0, 0, 'c', -1, 2);
        Checks.runs("what it throws itself counts as 0", town, throwing, SEVEN, "rn9");
        Reifytown deep = simple();
        int asked = body(deep, "p 1", "r 1");
        int twelve = body(deep, "= 2 1", "- 1 1 2", "z 1 5", "C 3 0 1 1", "r 3", "x 0", "r 1", "= 2 33", "r 2");
        deep.addRegion(twelve, 5, 5, 'w', asked, 6);
        deep.addRegion(twelve, 5, 5, 'c', -1, 7);
        deep.addMethod(0, 1, 'v', twelve);
        int run = body(deep, "N 2 2", "C 3 2 1 1", "r 3");
        Checks.runs("a filter that would not be more than 12 calls", deep, run, 10, "rn0 3");
        Checks.runs("and so does a filter that would be more than 12 calls, which is not called", deep, run, 11, "rn33");
        same("which is not called", deep.calls(), 11);
    }

    private static void unhandled() {
        Reifytown town = simple();
        int alone = body(town, "x 1", "p 1", "e");
        town.addRegion(alone, 0, 0, 'f', 0, 1);
        Checks.runs("If there is none, the run ends with 'u', and nothing more is done", town, alone, SEVEN, "u7");
        same("nothing more is done", town.finals(), 0);
    }

    private static void doneAtLast() {
        Reifytown town = simple();
        int inner = body(town, "x 1", "e", "= 2 51", "p 2", "e", "= 2 52", "p 2", "e");
        town.addRegion(inner, 0, 0, 'f', 0, 2);
        town.addRegion(inner, 0, 1, 'f', 0, 5);
        town.addRegion(inner, 1, 1, 'f', 0, 2);
        town.addMethod(0, 1, 'v', inner);
        int outer = body(town, "N 2 2", "C 3 2 1 1", "e", "p 5", "r 5", "= 4 53", "p 4", "e", "= 4 54", "p 4", "e");
        town.addRegion(outer, 1, 1, 'f', 0, 5);
        town.addRegion(outer, 1, 1, 'c', 7, 3);
        town.addRegion(outer, 1, 2, 'f', 0, 8);
        Checks.runs("what is told at last by 'f' is done for each region with the step within, in the order of regions and calls;"
            + " the handler begins, with its local 5 as the number; the order of regions ends at the handler's", town, outer, SEVEN,
            "rn7 51 52 53 7");
        same("done for each region that is left", town.finals(), 3);
        int goes = body(town, "r 1", "p 1", "p 1", "e", "x 1");
        town.addRegion(goes, 0, 0, 'f', 0, 1);
        Checks.runs("What is done at last goes on from its place to 'e'", town, goes, SEVEN, "rn7 7 7");
    }

    private static void doneAtLastOnEachWayOut() {
        String what = "It is also done for each region that is left by ";
        String[][] ways = {{"'j'", "j 0 4", "rn7 7"}, {"'z'", "z 5 4", "rn7 7"}, {"'r'", "r 1", "rn7 7"}};
        for (String[] way : ways) {
            Reifytown town = simple();
            int body = body(town, way[1], "e", "p 1", "e", "r 1");
            town.addRegion(body, 0, 1, 'f', 0, 2);
            Checks.runs(what + way[0], town, body, SEVEN, way[2]);
        }
        Reifytown town = simple();
        int stays = body(town, "j 0 1", "r 1", "e", "x 1");
        town.addRegion(stays, 0, 1, 'f', 0, 2);
        Checks.runs("that is left", town, stays, SEVEN, "rn7");
        same("that is left: once", town.finals(), 1);
        int end = body(town, "j 0 3", "p 1", "e");
        town.addRegion(end, 3, 3, 'f', 0, 1);
        Checks.runs(what + "the end of the body", town, end, SEVEN, "r0 7");
        same("and for the run as a step, too, if an 'f' region has this place", town.steps(), 4);
        says("the end of the body without such a region", town, "r0 7", "p 1");
        same("no step without such a region", town.steps(), 1);
        int gives = body(town, "y 1", "y 1", "e", "= 2 50", "p 2", "e", "= 2 51", "p 2", "e");
        town.addRegion(gives, 0, 0, 'f', 0, 3);
        town.addRegion(gives, 1, 1, 'f', 0, 6);
        town.addRegion(gives, 0, 1, 'f', 0, 3);
        town.addMethod(0, 1, 'v', gives);
        says(what + "'Q', where the step is that which gave last, in the same order", town, "r0 51 50", "N 2 2", "G 3 2 1 1",
            "E 4 3 5", "E 4 3 5", "Q 3");
        int order = body(town, "j 0 4", "p 1", "e", "e", "= 2 9", "r 2");
        town.addRegion(order, 0, 0, 'f', 0, 1);
        Checks.runs("ahead of going there", town, order, SEVEN, "rn9 7");
    }

    private static void takenPlaces() {
        Reifytown town = simple();
        int returns = body(town, "x 1", "e", "= 2 9", "r 2");
        town.addRegion(returns, 0, 0, 'f', 0, 2);
        town.addMethod(0, 1, 'v', returns);
        int ends = body(town, "r 1", "e", "p 1");
        town.addRegion(ends, 0, 0, 'f', 0, 2);
        town.addMethod(0, 2, 'v', ends);
        int throwing = body(town, "r 1", "e", "= 2 9", "x 2");
        town.addRegion(throwing, 0, 0, 'f', 0, 2);
        town.addMethod(0, 3, 'v', throwing);
        String[] due = {"rn9", "r0 7", "u9"};
        for (int name = 1; name < 4; name++) {
            int run = body(town, "N 2 2", "C 3 2 " + name + " 1", "r 3", "x 5");
            town.addRegion(run, 1, 1, 'c', 7, 3);
            Checks.runs("'r' and the end of the body inside take the place; if something is thrown there, " + name, town, run,
                SEVEN, due[name - 1]);
        }
        int handled = body(town, "r 1", "x 1", "e", "p 5", "e", "= 2 9", "r 2");
        town.addRegion(handled, 0, 0, 'f', 0, 1);
        town.addRegion(handled, 1, 1, 'c', -1, 3);
        Checks.runs("also if this call handles it, wherever", town, handled, SEVEN, "rn9 7");
        int calls = body(town, "r 1", "C 3 4 0 1", "e", "= 2 9", "e", "r 2");
        town.addRegion(calls, 0, 0, 'f', 0, 1);
        town.addRegion(calls, 1, 1, 'c', -1, 3);
        Checks.runs("by it or out of what it calls", town, calls, SEVEN, "rn9");
        says("An 'e' elsewhere does nothing", town, "rn7", "e", "e", "r 1");
        int jumps = body(town, "r 1", "j 0 3", "x 1", "p 1", "e", "x 1");
        town.addRegion(jumps, 0, 0, 'f', 0, 1);
        Checks.runs("by 'j' or 'z' out of what is done at last, it is not ended: the next 'e' goes on with it", town, jumps, SEVEN,
            "rn7 7");
        int within = body(town, "r 1", "r 1", "e", "p 1", "e");
        town.addRegion(within, 0, 0, 'f', 0, 1);
        town.addRegion(within, 1, 1, 'f', 0, 3);
        Checks.runs("Steps of what is done at last are within regions only if they lie in them", town, within, SEVEN, "rn7 7");
        Reifytown other = simple();
        int handler = body(other, "x 1", "x 5", "r 1");
        other.addRegion(handler, 0, 0, 'c', -1, 1);
        other.addRegion(handler, 0, 0, 'c', -1, 2);
        Checks.runs("Steps of handlers are within regions only if they lie in them", other, handler, SEVEN, "u7");
    }

    // ---- Statics

    private static void statics() {
        Reifytown town = typed();
        says("A type of a kind has two statics, 0 at first", town, "rn0 0", "S 2 3 0", "p 2", "S 2 3 1", "r 2");
        says("of its own", town, "rn0 7", "s 1 3 0", "S 2 3 0", "p 2", "S 2 4 0", "r 2");
        int ready = body(town, "= 2 50", "p 2", "s 2 -2 0", "S 3 -2 1", "p 3", "s 2 -2 1");
        same("A kind can have a body that makes them ready", town.setReady(0, ready), -1);
        says("called when a static of a type of it is used for the first time, ahead of this", town, "rn50 50 0", "S 2 3 0",
            "S 3 3 1", "r 2");
        same("while it goes on, others see what is there", town.calls(), 1);
        says("for each type", town, "r0 50 0 50 0", "s 1 3 0", "s 1 4 0", "S 2 3 0");
        says("ahead of this: the step's own value stays", town, "rn7 50 0", "s 1 3 0", "S 2 3 0", "r 2");
        Reifytown none = typed();
        none.setReady(0, body(none, "? 2 0 1", "s 2 -2 0"));
        says("without a receiver", none, "rn1", "S 2 3 0", "r 2");
        Reifytown unused = typed();
        unused.setReady(0, body(unused, "p 1"));
        says("not called unless a static is used", unused, "ro", "N 2 3", "r 2");
    }

    private static void spoiltStatics() {
        Reifytown town = simple();
        int ready = body(town, "= 2 9", "x 2", "= 3 50", "p 3", "e");
        town.addRegion(ready, 1, 1, 'f', 0, 2);
        town.setReady(0, ready);
        int filter = body(town, "= 2 60", "p 2", "r 1");
        int uses = body(town, "S 2 2 0", "r 2", "S 2 2 1", "r 2", "r 5");
        town.addRegion(uses, 0, 0, 'w', filter, 2);
        town.addRegion(uses, 2, 2, 'c', 9, 4);
        Checks.runs("What it throws and does not handle ends it first, as if handled around it; then the use throws this from its"
            + " step, and so does each later use", town, uses, SEVEN, "rn9 50 60");
        same("it is called once", town.calls(), 2);
    }

    // ---- Runs

    private static void runs() {
        Reifytown town = simple();
        says("a run sets a static", town, "rn7", "s 1 2 0", "S 2 2 0", "r 2");
        says("A run begins with new statics", town, "rn0", "S 2 2 0", "r 2");
        says("calls a body without a receiver", town, "r0", "r 0");
        says("and with a number as its argument", town, "rn7", "r 1");
        says("where -1 in a step stands for int", town, "rn0", "N 2 -1", "r 2");
        int ring = body(town, "j 0 0");
        same("'l' when one more step than 1000 would be made", town.run(ring, 0), 'l');
        same("1000 are made", town.steps(), 1000);
        // One step, three for each turn, and two that end it.
        int counts = body(town, "= 2 1", "z 1 5", "- 1 1 2", "j 0 1", "e", "r 1");
        same("ends with 'r' when it returns", town.run(counts, 332), 'r');
        same("ends with 'r': so many steps", town.steps(), 999);
        same("'l' otherwise", town.run(counts, 333), 'l');
        same("'u'", town.run(body(town, "x 1"), 3), 'u');
    }

    private static void exceptions() {
        Twins.index("A method that throws an exception changes nothing", Towns::rich, town -> town.type(60, 0));
        Twins.state("changes nothing: addMethod", Towns::rich, town -> town.addMethod(2, 0, 'v', 0));
        Checks.index("the one that is listed first is thrown", () -> simple().addMethod(9, 9, 'z', 9));
        Checks.argument("listed first: ahead of the others", () -> simple().addMethod(0, 9, 'o', 0));
        Checks.unsupported("listed first: ahead of the last", () -> simple().addMethod(0, 0, 'o', 0));
        Checks.state("listed last", () -> simple().addMethod(0, 0, 'v', 0));
    }
}
