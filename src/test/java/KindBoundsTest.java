/** The bounds of promises 1 to 7: what is empty or full, one too small or too large, and what is refused. */
public final class KindBoundsTest {
    private static final int LEAST = Integer.MIN_VALUE;
    private static final int MOST = Integer.MAX_VALUE;

    public static void main(String[] args) {
        promise1Empty();
        promise2Letters();
        promise2Full();
        promise3Numbers();
        promise3Order();
        promise3Counts();
        promise3Typed();
        promise4Numbers();
        promise4Order();
        promise4Full();
        promise4Limits();
        promise5Numbers();
        promise5Order();
        promise5Depth();
        promise5Full();
        promise6Steps();
        promise7Numbers();
        promise7Values();
        promise7Variances();
        promise7Above();
        Checks.close("KindBoundsTest");
    }

    /** Without kinds and bodies, and ahead of the first run. */
    private static void promise1Empty() {
        Twins.Made none = Reifytown::new;
        int[] wrong = {LEAST, -2, -1, 0, 1, MOST};
        for (int n : wrong) {
            Twins.index("1 no kind " + n, none, t -> t.setParent(n, n, -1));
            Twins.index("1 no kind for an interface " + n, none, t -> t.addInterface(n, n, -1));
            Twins.index("1 no kind for a type " + n, none, t -> t.type(n, -1));
            Twins.index("1 no kind for a method " + n, none, t -> t.addMethod(n, 0, 'a', -1));
            Twins.index("1 no kind to tell " + n, none, t -> t.tell(n, n, 0, 0));
            Twins.index("1 no kind to make ready " + n, none, t -> t.setReady(n, -1));
            Twins.index("1 no body for a step " + n, none, t -> t.addStep(n, 'e', 0, 0, 0, 0));
            Twins.index("1 no body for a region " + n, none, t -> t.addRegion(n, 0, 0, 'f', 0, 1));
            Twins.index("1 no kind to be found " + n, none, t -> t.found(0, n, 0));
            Twins.index("1 no body to run " + n, none, t -> t.run(n, 0));
            Twins.index("1 no body to run written out " + n, none, t -> t.runWritten(n, 0));
            Twins.index("1 no body to be the same " + n, none, t -> t.isSame(n, 0));
            Twins.index("1 no output " + n, none, t -> t.output(n));
        }
        Twins.missing("1 nothing returned", none, Reifytown::returned);
        Twins.missing("1 no number", none, Reifytown::number);
        Twins.missing("1 nothing unhandled", none, Reifytown::unhandled);
        Twins.missing("1 no static of int", none, t -> t.staticOf(0, 0));
        Twins.missing("1 no static of object", none, t -> t.staticOf(1, 1));
        Twins.arithmetic("1 no share", none, Reifytown::pieceShare);
        Twins.arithmetic("1 no mean", none, Reifytown::meanSteps);
        Reifytown town = none.town();
        Checks.same("1 two types", town.types(), 2);
        Checks.same("1 int is itself", town.isBelow(0, 0), true);
        Checks.same("1 int is an object", town.isBelow(0, 1), true);
        Checks.same("1 object is itself", town.isBelow(1, 1), true);
        Checks.same("1 object is no int", town.isBelow(1, 0), false);
    }

    private static void promise2Letters() {
        String letters = "csibdhjrtCSI \0\uffff";
        String variances = "+-=,.*<>~ \0\uffff";
        String limits = "vr-uwqs,.VR= \0\uffff";
        for (int i = 0; i < 2 * letters.length() * variances.length() * limits.length(); i++) {
            boolean hasParameter = i % 2 == 0;
            char letter = letters.charAt(i / 2 % letters.length());
            char variance = variances.charAt(i / 2 / letters.length() % variances.length());
            char limit = limits.charAt(i / 2 / letters.length() / variances.length());
            boolean isVariance = variance == '=' || letter == 'i' && hasParameter && (variance == '+' || variance == '-');
            boolean isLimit = limit == '-' || hasParameter && (limit == 'v' || limit == 'r');
            boolean isGood = (letter == 'c' || letter == 's' || letter == 'i') && isVariance && isLimit;
            Object got = Twins.answer(() -> new Reifytown().addKind(letter, hasParameter, variance, limit));
            Checks.same("2 " + letter + hasParameter + variance + limit, got, isGood ? 0 : "IllegalArgumentException");
        }
        Twins.argument("2 no letter", Towns::rich, t -> t.addKind('x', true, '=', '-'));
        Twins.argument("2 no variance", Towns::rich, t -> t.addKind('i', true, '*', '-'));
        Twins.argument("2 a variance of a class", Towns::rich, t -> t.addKind('c', true, '-', '-'));
        Twins.argument("2 no limit", Towns::rich, t -> t.addKind('s', true, '=', 'i'));
        Twins.argument("2 a limit without a parameter", Towns::rich, t -> t.addKind('s', false, '=', 'v'));
    }

    private static void promise2Full() {
        Reifytown town = new Reifytown();
        for (int i = 0; i < 10; i++) {
            Checks.same("2 kind " + i, town.addKind("cis".charAt(i % 3), i < 5, '=', '-'), i);
        }
        Checks.same("2 the last one is there", town.type(9, -1), 2);
        Twins.state("2 the eleventh", Towns::fullOfKinds, t -> t.addKind('c', false, '=', '-'));
        Twins.state("2 the eleventh with a parameter", Towns::fullOfKinds, t -> t.addKind('i', true, '+', 'r'));
        Twins.argument("2 a letter ahead of the eleventh", Towns::fullOfKinds, t -> t.addKind('k', false, '=', '-'));
        Twins.argument("2 a variance ahead of it", Towns::fullOfKinds, t -> t.addKind('c', true, '+', '-'));
        Twins.argument("2 a limit ahead of it", Towns::fullOfKinds, t -> t.addKind('c', false, '=', 'r'));
    }

    private static void promise3Numbers() {
        int[] kinds = {LEAST, -2, -1, 9, 10, MOST};
        for (int n : kinds) {
            Twins.index("3 kind " + n, Towns::rich, t -> t.setParent(n, 2, 0));
            Twins.index("3 parent " + n, Towns::rich, t -> t.setParent(7, n, -1));
        }
        int[] types = {LEAST, -4, -3, 9, 10, MOST};
        for (int n : types) {
            Twins.index("3 argument " + n, Towns::rich, t -> t.setParent(7, 2, n));
        }
        for (int argument = -2; argument < 9; argument++) {
            Reifytown town = Towns.rich();
            int told = argument;
            Object due = argument < 0 ? "IllegalArgumentException" : (Object) 2;
            Checks.same("3 with the argument " + argument, Twins.answer(() -> town.setParent(7, 2, told)), due);
        }
        Reifytown town = Towns.of("c", "c=-", "c=-", "c");
        Checks.same("3 the least kind that can", town.setParent(1, 0, -1), 1);
        Checks.same("3 the own parameter", town.setParent(2, 1, -2), 1);
        Checks.same("3 the greatest type", town.setParent(3, 1, 1), 2);
    }

    /** What is listed first is thrown, whatever else is wrong. */
    private static void promise3Order() {
        Twins.Made made = () -> {
            Reifytown town = Towns.of("c", "c=r", "c=v", "c", "i", "c=-", "c=v");
            town.setParent(3, 0, -1);
            town.type(5, 0);
            return town;
        };
        Twins.index("3 kind, ahead of all", made, t -> t.setParent(7, 4, 0));
        Twins.index("3 kind, ahead of a limit", made, t -> t.setParent(7, 1, 0));
        Twins.index("3 parent, ahead of a second parent", made, t -> t.setParent(3, 7, -1));
        Twins.index("3 type, ahead of an interface", made, t -> t.setParent(4, 4, 3));
        Twins.index("3 type, ahead of a missing parameter", made, t -> t.setParent(3, 0, 3));
        Twins.index("3 type, ahead of a type that was made", made, t -> t.setParent(5, 1, -3));
        Twins.argument("3 itself, ahead of a limit", made, t -> t.setParent(1, 1, 0));
        Twins.argument("3 a higher one, ahead of a limit", made, t -> t.setParent(0, 1, 0));
        Twins.argument("3 an interface, ahead of a limit", made, t -> t.setParent(4, 1, 0));
        Twins.argument("3 no argument, ahead of a second parent", made, t -> t.setParent(3, 2, -1));
        Twins.argument("3 an argument too much, ahead of a second parent", made, t -> t.setParent(3, 0, 0));
        Twins.argument("3 no own parameter, ahead of a limit", made, t -> t.setParent(3, 1, -2));
        Twins.argument("3 no own parameter, of none", made, t -> t.setParent(3, 0, -2));
        Twins.argument("3 a higher one, ahead of a type", made, t -> t.setParent(5, 6, 0));
        Twins.unsupported("3 a limit, ahead of a second parent", made, t -> t.setParent(3, 1, 0));
        Twins.unsupported("3 a limit of values, ahead of a second parent", made, t -> t.setParent(3, 2, 1));
        Twins.unsupported("3 the own limit, ahead of a type", made, t -> t.setParent(5, 1, -2));
        Twins.unsupported("3 the own limit that is another one", made, t -> t.setParent(6, 1, -2));
        Twins.state("3 a second parent", made, t -> t.setParent(3, 1, 1));
        Twins.state("3 the same parent", made, t -> t.setParent(3, 0, -1));
        Twins.state("3 a type", made, t -> t.setParent(5, 0, -1));
        Checks.same("3 the own limit that is the same", made.town().setParent(6, 2, -2), 1);
    }

    private static void promise3Counts() {
        Reifytown town = Towns.of("c", "c", "c", "c", "c", "c", "c", "c", "c", "c");
        for (int kind = 9; kind > 0; kind--) {
            Checks.same("3 child " + kind, town.setParent(kind, 0, -1), 10 - kind);
        }
        Reifytown row = Towns.of("c", "c", "c", "c", "c", "c", "c", "c", "c", "c");
        for (int kind = 1; kind < 10; kind++) {
            Checks.same("3 below " + kind, row.setParent(kind, kind - 1, -1), 1);
        }
        Checks.same("3 all ten", row.isBelow(row.type(9, -1), row.type(0, -1)), true);
    }

    /** A type is made by type(), by a step of a run, or of isSame; what is looked at or refused is not made. */
    private static void promise3Typed() {
        Twins.Made made = () -> {
            Reifytown town = Towns.of("c", "c=-", "i=-", "c=-");
            Checks.body(town, "d 2 -5");
            return town;
        };
        Twins.state("3 made by a step", () -> {
            Reifytown town = made.town();
            town.run(0, 0);
            return town;
        }, t -> t.setParent(3, 0, -1));
        Twins.state("3 made by isSame", () -> {
            Reifytown town = made.town();
            town.isSame(0, 0);
            return town;
        }, t -> t.addInterface(3, 2, 0));
        Reifytown refused = made.town();
        Checks.index("3 no such type", () -> refused.type(3, 2));
        Checks.argument("3 no argument", () -> refused.type(3, -1));
        Checks.same("3 refused, so none was made", refused.setParent(3, 0, -1), 1);
        Reifytown looked = made.town();
        looked.setParent(3, 1, -2);
        looked.addInterface(3, 2, -2);
        Checks.same("3 below what is not made", looked.isBelow(looked.type(3, 0), 1), true);
        Checks.same("3 only looked at", looked.types(), 3);
        Checks.same("3 the parent has none", looked.setParent(1, 0, -1), 1);
        Checks.state("4 the child has one", () -> looked.addInterface(3, 2, -2));
    }

    private static void promise4Numbers() {
        int[] kinds = {LEAST, -2, -1, 9, 10, MOST};
        for (int n : kinds) {
            Twins.index("4 kind " + n, Towns::rich, t -> t.addInterface(n, 1, -1));
            Twins.index("4 other " + n, Towns::rich, t -> t.addInterface(7, n, -1));
        }
        int[] types = {LEAST, -4, -3, 9, 10, MOST};
        for (int n : types) {
            Twins.index("4 argument " + n, Towns::rich, t -> t.addInterface(7, 0, n));
        }
        for (int argument = -2; argument < 9; argument++) {
            Reifytown town = Towns.rich();
            int told = argument;
            Object due = argument < 0 ? "IllegalArgumentException" : (Object) 1;
            Checks.same("4 with the argument " + argument, Twins.answer(() -> town.addInterface(7, 0, told)), due);
        }
    }

    private static void promise4Order() {
        Twins.Made made = () -> {
            Reifytown town = Towns.of("i", "i=r", "i=v", "i", "c=v", "s", "i=-", "c=-", "c");
            town.addInterface(5, 0, -1);
            town.addInterface(5, 3, -1);
            town.addInterface(5, 1, 1);
            town.type(7, 0);
            town.addInterface(4, 0, -1);
            town.addInterface(6, 1, 1);
            return town;
        };
        Twins.index("4 kind, ahead of all", made, t -> t.addInterface(9, 8, 0));
        Twins.index("4 other, ahead of four", made, t -> t.addInterface(5, 9, -1));
        Twins.index("4 type, ahead of a class", made, t -> t.addInterface(5, 4, 3));
        Twins.index("4 type, ahead of a type that was made", made, t -> t.addInterface(7, 6, -3));
        Twins.argument("4 a class, ahead of a limit", made, t -> t.addInterface(5, 4, 1));
        Twins.argument("4 a structure", made, t -> t.addInterface(8, 5, -1));
        Twins.argument("4 itself, ahead of a limit", made, t -> t.addInterface(2, 2, 1));
        Twins.argument("4 a higher one, ahead of a limit", made, t -> t.addInterface(0, 2, 1));
        Twins.argument("4 an argument too much, ahead of the same", made, t -> t.addInterface(5, 0, 0));
        Twins.argument("4 no argument, ahead of four", made, t -> t.addInterface(5, 2, -1));
        Twins.argument("4 no own parameter, ahead of a limit", made, t -> t.addInterface(8, 1, -2));
        Twins.argument("4 an own parameter for none", made, t -> t.addInterface(7, 0, -2));
        Twins.unsupported("4 a limit, ahead of four", made, t -> t.addInterface(5, 2, 1));
        Twins.unsupported("4 a limit, ahead of the same", made, t -> t.addInterface(5, 1, 0));
        Twins.unsupported("4 the own limit, ahead of a type", made, t -> t.addInterface(7, 1, -2));
        Twins.unsupported("4 the own limit that is another one", made, t -> t.addInterface(4, 1, -2));
        Twins.state("4 a type", made, t -> t.addInterface(7, 0, -1));
        Twins.state("4 the first one again", made, t -> t.addInterface(4, 0, -1));
        Twins.state("4 the same with another argument", made, t -> t.addInterface(6, 1, 2));
        Checks.same("4 the own limit that is the same", made.town().addInterface(4, 2, -2), 2);
        Checks.same("4 of an interface", made.town().addInterface(6, 3, -1), 2);
    }

    private static void promise4Full() {
        String[] letters = {"c", "s", "i", "c=-"};
        for (String letter : letters) {
            Reifytown town = Towns.of("i", "i", "i=-", "i", letter);
            Checks.same("4 first of " + letter, town.addInterface(4, 3, -1), 1);
            Checks.same("4 second of " + letter, town.addInterface(4, 0, -1), 2);
            Checks.state("4 second again of " + letter, () -> town.addInterface(4, 0, -1));
            Checks.same("4 third of " + letter, town.addInterface(4, 2, 0), 3);
            Checks.state("4 fourth of " + letter, () -> town.addInterface(4, 1, -1));
            Checks.state("4 third again of " + letter, () -> town.addInterface(4, 2, 0));
            town.type(4, letter.length() > 1 ? 0 : -1);
            Checks.state("4 third again, with a type, of " + letter, () -> town.addInterface(4, 2, 1));
        }
        Twins.state("4 the fourth of a class", Towns::fullOfKinds, t -> t.addInterface(4, 3, -1));
        Twins.state("4 the fourth of an interface", Towns::fullOfKinds, t -> t.addInterface(9, 3, -1));
        Twins.state("4 the first again", Towns::fullOfKinds, t -> t.addInterface(9, 0, -1));
        Twins.argument("4 what is no interface, ahead of the fourth", Towns::fullOfKinds, t -> t.addInterface(9, 8, -1));
    }

    /** What an argument, or the own parameter, must be for each limit. */
    private static void promise4Limits() {
        String limits = "-rv";
        for (int i = 0; i < 9; i++) {
            char own = limits.charAt(i / 3);
            char other = limits.charAt(i % 3);
            boolean isAllowed = other == '-' || own == other;
            Reifytown town = Towns.of("i=" + other, "c=" + other, "c=" + own);
            Checks.same("4 " + own + " below " + other, Twins.answer(() -> town.addInterface(2, 0, -2)),
                isAllowed ? 1 : "UnsupportedOperationException");
            Checks.same("3 " + own + " below " + other, Twins.answer(() -> town.setParent(2, 1, -2)),
                isAllowed ? 1 : "UnsupportedOperationException");
        }
        for (int i = 0; i < 3 * 5; i++) {
            char limit = limits.charAt(i / 5);
            Reifytown town = Towns.of("s", "i", "c", "i=" + limit, "c=" + limit, "c", "c=" + limit);
            int[] types = {0, 1, town.type(0, -1), town.type(1, -1), town.type(2, -1)};
            int type = types[i % 5];
            boolean isValue = i % 5 == 0 || i % 5 == 2;
            boolean isAllowed = limit == '-' || isValue == (limit == 'v');
            Object due = isAllowed ? 1 : "UnsupportedOperationException";
            Checks.same("4 " + limit + " of type " + i % 5, Twins.answer(() -> town.addInterface(5, 3, type)), due);
            Checks.same("3 " + limit + " of type " + i % 5, Twins.answer(() -> town.setParent(5, 4, type)), due);
            Checks.same("5 " + limit + " of type " + i % 5, Twins.answer(() -> town.type(6, type)),
                isAllowed ? 5 : "UnsupportedOperationException");
        }
    }

    private static void promise5Numbers() {
        int[] kinds = {LEAST, -2, -1, 9, 10, MOST};
        for (int n : kinds) {
            Twins.index("5 kind " + n, Towns::rich, t -> t.type(n, -1));
            Twins.index("5 kind with an argument " + n, Towns::rich, t -> t.type(n, 0));
        }
        int[] types = {LEAST, -3, -2, 9, 10, MOST};
        for (int n : types) {
            Twins.index("5 argument " + n, Towns::rich, t -> t.type(2, n));
        }
        Object[] due = {"IllegalArgumentException", 3, 9, 9, 9, 9, 9, 9, 9, 9};
        for (int argument = -1; argument < 9; argument++) {
            int told = argument;
            Checks.same("5 with the argument " + argument, Twins.answer(() -> Towns.rich().type(2, told)), due[told + 1]);
        }
        Checks.same("5 the greatest kind", Towns.rich().type(8, -1), 8);
    }

    private static void promise5Order() {
        Twins.index("5 type, ahead of an argument too much", Towns::rich, t -> t.type(3, 9));
        Twins.index("5 type -2, ahead of an argument too much", Towns::rich, t -> t.type(3, -2));
        Twins.index("5 type, ahead of sixty", Towns::fullOfTypes, t -> t.type(3, 60));
        Twins.index("5 kind, ahead of sixty", Towns::fullOfTypes, t -> t.type(5, -1));
        Twins.argument("5 an argument too much", Towns::rich, t -> t.type(7, 0));
        Twins.argument("5 no argument", Towns::rich, t -> t.type(6, -1));
        Twins.argument("5 an argument too much, ahead of sixty", Towns::fullOfTypes, t -> t.type(0, 1));
        Twins.argument("5 no argument, ahead of sixty", Towns::fullOfTypes, t -> t.type(3, -1));
        Twins.unsupported("5 a limit of values", Towns::rich, t -> t.type(4, 1));
        Twins.unsupported("5 a limit of references", Towns::rich, t -> t.type(6, 0));
        Twins.unsupported("5 a limit, ahead of sixty", Towns::fullOfTypes, t -> t.type(3, 0));
        Twins.state("5 sixty", Towns::fullOfTypes, t -> t.type(3, 1));
    }

    /** The depth of a type, by int, by object, by a class and by a structure. */
    private static void promise5Depth() {
        Twins.Made made = () -> {
            Reifytown town = Towns.of("c", "s", "c=-", "s=-", "c=r", "s=v");
            town.type(0, -1);
            town.type(1, -1);
            for (int first = 0; first < 4; first++) {
                int last = first;
                for (int depth = 2; depth <= 5; depth++) {
                    last = town.type(depth % 2 == 0 ? 2 : 3, last);
                }
                Checks.same("5 depth 5 of " + first, last, 4 + 4 * first + 3);
            }
            return town;
        };
        int[] deepest = {7, 11, 15, 19};
        for (int type : deepest) {
            Twins.state("5 depth 6 of " + type, made, t -> t.type(2, type));
            Twins.state("5 depth 6 of a structure of " + type, made, t -> t.type(3, type));
        }
        Reifytown town = made.town();
        Checks.unsupported("5 a limit ahead of the depth", () -> town.type(4, 7));
        Checks.same("5 of a limit, depth 5", town.type(5, town.type(3, 5)), 21);
        Checks.same("5 depth 5 again", town.type(3, 6), 7);
    }

    private static void promise5Full() {
        Reifytown town = Towns.of("c", "c=-", "c=-");
        for (int argument = 0; town.types() < 59; argument++) {
            town.type(1, argument);
            town.type(2, argument);
            if (town.types() == 58) {
                town.type(0, -1);
            }
        }
        Checks.same("5 the sixtieth", town.type(2, town.types() / 2), 59);
        Checks.same("5 sixty", town.types(), 60);
        Checks.state("5 the next one", () -> town.type(1, 28));
        Checks.same("5 the sixtieth again", town.type(2, 29), 59);
        Checks.same("5 the first again", town.type(1, 0), 2);
        Twins.state("5 a kind without a parameter", Towns::fullOfTypes, t -> t.type(0, -1));
        Twins.state("5 an argument that is the last type", Towns::fullOfTypes, t -> t.type(1, 59));
        Reifytown full = Towns.fullOfTypes();
        Checks.same("5 one that is there", full.type(1, 28), 59);
        Checks.same("5 the sixtieth is below object", full.isBelow(59, 1), true);
        Checks.state("5 no type was made", () -> full.type(0, -1));
        Checks.same("3 so it can have a parent", full.setParent(3, 0, -1), 1);
    }

    /** Types that steps make get the next numbers, once, and are not more than sixty, or too deep. */
    private static void promise6Steps() {
        Reifytown town = Towns.of("c=-", "s=-", "i+-");
        int body = Checks.body(town, "d 2 -3", "T 2 1 -2", "d 3 -3", "U 2 2 -4");
        Checks.runs("6 types by steps", town, body, 5, "u2");
        Checks.same("6 three more", town.types(), 5);
        Checks.same("6 the first by a step", town.type(1, 0), 2);
        Checks.same("6 the second", town.type(0, 0), 3);
        Checks.same("6 the third", town.type(2, 0), 4);
        Checks.same("6 next by type()", town.type(0, 1), 5);
        Checks.same("6 run again", town.run(body, 5), 'u');
        Checks.same("6 no more", town.types(), 6);
        Reifytown same = Towns.of("c=-");
        int made = Checks.body(same, "d 2 -2");
        Checks.same("6 by isSame", same.isSame(made, 0), true);
        Checks.same("6 one more stays", same.types(), 3);
        Reifytown full = Towns.of("c", "c=-", "c=-", "s=-");
        full.type(0, -1);
        for (int argument = 0; full.types() < 59; argument++) {
            full.type(1, argument);
            if (full.types() < 59 && argument > 0) {
                full.type(2, argument);
            }
        }
        int two = Checks.body(full, "d 2 -4", "p 1", "d 2 -4", "p 1", "d 2 -5", "p 1");
        Checks.runs("6 the sixtieth fits, the next one does not", full, two, 8, "u6 8 8");
        Checks.same("6 sixty", full.types(), 60);
        Checks.runs("6 the same again", full, two, 8, "u6 8 8");
        Checks.same("6 still sixty", full.types(), 60);
        Checks.same("6 in both ways", full.isSame(two, 8), true);
        Checks.same("6 the sixtieth is that of the step", full.type(2, 0), 59);
    }

    private static void promise7Numbers() {
        int[] wrong = {LEAST, -2, -1, 9, 10, MOST};
        for (int n : wrong) {
            for (int other = 0; other < 9; other += 4) {
                int told = other;
                Twins.index("7 first " + n, Towns::rich, t -> t.isBelow(n, told));
                Twins.index("7 second " + n, Towns::rich, t -> t.isBelow(told, n));
            }
            Twins.index("7 both " + n, Towns::rich, t -> t.isBelow(n, n));
        }
        Reifytown town = Towns.rich();
        for (int type = 0; type < 9; type++) {
            Checks.same("7 itself " + type, town.isBelow(type, type), true);
            Checks.same("7 object above " + type, town.isBelow(type, 1), true);
            Checks.same("7 object below " + type, town.isBelow(1, type), type == 1);
            Checks.same("7 int below " + type, town.isBelow(0, type), type < 2);
        }
        Reifytown full = Towns.fullOfTypes();
        Checks.same("7 the last one", full.isBelow(59, 59), true);
        Checks.same("7 the last two", full.isBelow(59, 58), false);
        Checks.index("7 the next one", () -> full.isBelow(59, 60));
    }

    /** Of values, only the same fit, whatever the variance; and structures are below their interfaces and object. */
    private static void promise7Values() {
        String variances = "+-=";
        for (int i = 0; i < 3; i++) {
            Reifytown town = Towns.of("i", "s", "i" + variances.charAt(i) + "-", "c");
            town.addInterface(1, 0, -1);
            int face = town.type(0, -1);
            int structure = town.type(1, -1);
            int ofInt = town.type(2, 0);
            int ofObject = town.type(2, 1);
            int ofFace = town.type(2, face);
            int ofStructure = town.type(2, structure);
            Checks.same("7 a structure is below its interface", town.isBelow(structure, face), true);
            Checks.same("7 and object", town.isBelow(structure, 1), true);
            int[] values = {ofInt, ofStructure};
            int[] references = {ofObject, ofFace};
            for (int value : values) {
                Checks.same("7 of the same value", town.isBelow(value, value), true);
                for (int reference : references) {
                    Checks.same("7 of a value below a reference " + i, town.isBelow(value, reference), false);
                    Checks.same("7 of a reference below a value " + i, town.isBelow(reference, value), false);
                }
            }
            Checks.same("7 of two values " + i, town.isBelow(ofInt, ofStructure), false);
            Checks.same("7 of two values, the other way " + i, town.isBelow(ofStructure, ofInt), false);
            Checks.same("7 of an interface below object " + i, town.isBelow(ofFace, ofObject), i == 0);
            Checks.same("7 of object below an interface " + i, town.isBelow(ofObject, ofFace), i == 1);
            Checks.same("7 object is not below it", town.isBelow(1, ofObject), false);
        }
    }

    /** Variances within variances, up to the greatest depth. */
    private static void promise7Variances() {
        String variances = "+-=";
        for (int i = 0; i < 27; i++) {
            char[] by = {variances.charAt(i % 3), variances.charAt(i / 3 % 3), variances.charAt(i / 9)};
            Reifytown town = Towns.of("c", "c", "i" + by[0] + "-", "i" + by[1] + "-", "i" + by[2] + "-", "c=-");
            town.setParent(1, 0, -1);
            town.addInterface(5, 2, -2);
            int top = town.type(0, -1);
            int low = town.type(1, -1);
            int holder = town.type(5, low);
            int way = 1;
            for (int depth = 0; depth < 3; depth++) {
                top = town.type(2 + depth, top);
                low = town.type(2 + depth, low);
                way = by[depth] == '+' ? way : by[depth] == '-' ? -way : 0;
                String what = "7 variances " + i + " depth " + depth;
                Checks.same(what + ", up", town.isBelow(low, top), way == 1);
                Checks.same(what + ", down", town.isBelow(top, low), way == -1);
                if (depth == 0) {
                    Checks.same(what + ", by what has it", town.isBelow(holder, top), way == 1);
                    Checks.same(what + ", by what has it itself", town.isBelow(holder, low), true);
                    Checks.same(what + ", not the other way", town.isBelow(low, holder), false);
                }
            }
            int deep = town.type(5, top);
            Checks.state("7 no deeper", () -> town.type(5, deep));
        }
    }

    /** The parent of the parent, the interface of the interface of the parent, with the arguments put in. */
    private static void promise7Above() {
        Reifytown town = Towns.of("i=-", "i=-", "i", "c=-", "c=-", "c=-", "c");
        town.addInterface(1, 0, -2);
        town.addInterface(3, 2, -1);
        town.addInterface(3, 1, 0);
        town.addInterface(4, 1, -2);
        town.setParent(4, 3, -2);
        town.setParent(5, 4, 1);
        town.setParent(6, 5, 0);
        int low = town.type(6, -1);
        Object[][] due = {
            {5, 0, true}, {5, 1, false}, {4, 1, true}, {4, 0, false}, {3, 1, true}, {3, 0, false},
            {1, 1, true}, {1, 0, true}, {0, 1, true}, {0, 0, true},
        };
        for (Object[] d : due) {
            int above = town.type((Integer) d[0], (Integer) d[1]);
            Checks.same("7 below " + d[0] + " of " + d[1], town.isBelow(low, above), d[2]);
            Checks.same("7 never above " + d[0] + " of " + d[1], town.isBelow(above, low), false);
        }
        Checks.same("7 the plain interface", town.isBelow(low, town.type(2, -1)), true);
        int ofFace = town.type(0, town.type(2, -1));
        Checks.same("7 an interface of another type", town.isBelow(low, ofFace), false);
        Checks.same("7 a parent's type is below the parent's interface", town.isBelow(town.type(3, 1), town.type(1, 0)), true);
        Checks.same("7 but not with its own argument", town.isBelow(town.type(3, 1), town.type(1, 1)), false);
    }
}
