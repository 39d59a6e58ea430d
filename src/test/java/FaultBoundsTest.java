/** The bounds of what code does in a run: wrong values and types, wrap-around, what is empty, and exceptions of code. */
public final class FaultBoundsTest {
    private static final int LEAST = Integer.MIN_VALUE;
    private static final int MOST = Integer.MAX_VALUE;

    // What a local holds: nothing, a number, a structure, an object, a box of a number, a box of a structure, a
    // delegate or an iterator.
    private static final String HELD = "0nsobBdi";

    public static void main(String[] args) {
        numbersWrapAround();
        numbersThroughAll();
        localsApart();
        fieldsApart();
        staticsApart();
        operands();
        failedSteps();
        filtersThatReturn();
        withoutReceivers();
        unboxed();
        typesOfValues();
        sameness();
        structuresThatDifferByLittle();
        waysOfAll();
        typesThatAreNotThere();
        typesWithoutArgument();
        typesTooMany();
        typesByThemselves();
        newValues();
        receivers();
        receiverFaults();
        faultsInOrder();
        boxesAsReceivers();
        structuresAsReceivers();
        emptyBodies();
        emptyDelegates();
        targets();
        iteratorEnds();
        iteratorFaults();
        Checks.close("FaultBoundsTest");
    }

    /** A run, and one with code that is written out, and both as isSame sees them. */
    private static void runs(String what, Reifytown town, int body, int argument, String due) {
        Checks.runs(what, town, body, argument, due);
        town.runWritten(body, argument);
        Checks.same(what + ", written out", Checks.tells(town), due);
        Checks.same(what + ", in both ways", town.isSame(body, argument), true);
    }

    private static void alone(String what, int argument, String due, String... steps) {
        Reifytown town = new Reifytown();
        runs(what, town, Checks.body(town, steps), argument, due);
    }

    private static void numbersWrapAround() {
        int[] numbers = {LEAST, LEAST + 1, -1, 0, 1, MOST - 1, MOST};
        for (int one : numbers) {
            for (int other : numbers) {
                String what = one + " and " + other;
                long sum = (long) one + other;
                long less = (long) one - other;
                alone("plus, " + what, one, "rn" + (int) sum, "= 2 " + other, "+ 3 1 2", "r 3");
                alone("minus, " + what, one, "rn" + (int) less, "= 2 " + other, "- 3 1 2", "r 3");
                alone("less, " + what, one, "rn" + (one < other ? 1 : 0), "= 2 " + other, "< 3 1 2", "r 3");
                alone("same, " + what, one, "rn" + (one == other ? 1 : 0), "= 2 " + other, "? 3 1 2", "r 3");
            }
        }
        alone("beyond the greatest", MOST, "rn-2147483648", "= 2 1", "+ 3 1 2", "r 3");
        alone("beyond the least", LEAST, "rn2147483647", "= 2 1", "- 3 1 2", "r 3");
        alone("the least twice", LEAST, "rn0", "+ 1 1 1", "r 1");
        alone("the least from 0", LEAST, "rn-2147483648", "= 2 0", "- 3 2 1", "r 3");
        alone("all locals are one", MOST, "rn-2", "+ 1 1 1", "r 1");
    }

    /** The least and the greatest number go through all that can hold one. */
    private static void numbersThroughAll() {
        int[] numbers = {LEAST, -1, 0, 1, MOST};
        for (int n : numbers) {
            Reifytown town = Towns.of("c");
            town.type(0, -1);
            town.addMethod(0, 0, 'v', Checks.body(town, "p 1", "y 1", "r 1"));
            town.addMethod(0, 1, 'v', Checks.body(town, "r 1"));
            alone("argument " + n, n, "rn" + n, "r 1");
            alone("put out " + n, n, "r0 " + n, "p 1");
            alone("becomes " + n, 5, "rn" + n, "= 1 " + n, "r 1");
            alone("thrown " + n, n, "u" + n, "x 1");
            alone("jump by " + n, n, n == 0 ? "r0" : "u" + n, "z 1 2", "x 1");
            alone("boxed " + n, n, "rn" + n, "B 2 1", "U 3 2 0", "r 3");
            runs("by an object " + n, town, Checks.body(town, "N 2 2", "! 1 2 2", ". 3 2 2", "C 4 2 1 3", "r 4"), n, "rn" + n);
            runs("by an iterator " + n, town, Checks.body(town, "N 2 2", "G 3 2 0 1", "E 4 3 5", "r 5"), n,
                "rn" + n + " " + n);
            runs("by a delegate " + n, town, Checks.body(town, "N 2 2", "D 3 2 1", "I 4 3 1", "r 4"), n, "rn" + n);
            runs("by a static " + n, town, Checks.body(town, "s 1 2 1", "S 3 2 1", "r 3"), n, "rn" + n);
            Checks.same("22 static " + n, town.staticOf(2, 1), n);
            Checks.same("22 the other one " + n, town.staticOf(2, 0), 0);
            for (int handled : numbers) {
                Reifytown thrown = new Reifytown();
                int body = Checks.body(thrown, "x 1", "e", "r 5");
                thrown.addRegion(body, 0, 0, 'c', handled, 2);
                runs("thrown " + n + ", handler of " + handled, thrown, body, n,
                    (handled == -1 || handled == n ? "rn" : "u") + n);
                Reifytown asked = new Reifytown();
                int filter = Checks.body(asked, "p 1", "= 2 " + handled, "r 2");
                int filtered = Checks.body(asked, "x 1", "e", "r 5");
                asked.addRegion(filtered, 0, 0, 'w', filter, 2);
                runs("thrown " + n + ", filter that returns " + handled, asked, filtered, n,
                    (handled != 0 ? "rn" : "u") + n + " " + n);
            }
        }
    }

    private static void localsApart() {
        for (int local = 0; local < 6; local++) {
            String[] steps = {"= 0 10", "= 1 11", "= 2 12", "= 3 13", "= 4 14", "= 5 15", "= " + local + " 99",
                "p 0", "p 1", "p 2", "p 3", "p 4", "p 5"};
            StringBuilder due = new StringBuilder("r0");
            for (int i = 0; i < 6; i++) {
                due.append(' ').append(i == local ? 99 : 10 + i);
            }
            alone("local " + local, 0, due.toString(), steps);
            String first = local == 1 ? "rn7" : "r0";
            alone("local " + local + " at first", 7, first, "r " + local);
        }
    }

    private static void fieldsApart() {
        for (String kind : new String[] {"c", "s"}) {
            for (int field = 0; field < 3; field++) {
                Reifytown town = Towns.of(kind);
                town.type(0, -1);
                StringBuilder due = new StringBuilder("r0 0 0 0");
                for (int i = 0; i < 3; i++) {
                    due.append(' ').append(i == field ? 99 : 20 + i);
                }
                int body = Checks.body(town, "N 2 2", ". 3 2 0", "p 3", ". 3 2 1", "p 3", ". 3 2 2", "p 3",
                    "= 3 20", "! 3 2 0", "= 3 21", "! 3 2 1", "= 3 22", "! 3 2 2", "! 1 2 " + field,
                    ". 3 2 0", "p 3", ". 3 2 1", "p 3", ". 3 2 2", "p 3");
                runs("field " + field + " of " + kind, town, body, 99, due.toString());
            }
        }
    }

    private static void staticsApart() {
        Reifytown town = Towns.of("c=-", "s", "i");
        int[] types = {town.type(0, 0), town.type(0, 1), town.type(1, -1), town.type(2, -1)};
        for (int type : types) {
            for (int index = 0; index < 2; index++) {
                int body = Checks.body(town, "s 1 " + type + " " + index);
                runs("static " + index + " of " + type, town, body, 5, "r0");
                for (int other : types) {
                    Checks.same("22 static 0 of " + other, town.staticOf(other, 0), other == type && index == 0 ? 5 : 0);
                    Checks.same("22 static 1 of " + other, town.staticOf(other, 1), other == type && index == 1 ? 5 : 0);
                }
            }
        }
        int objects = Checks.body(town, "N 2 2", "s 2 2 0", "d 3 3", "s 3 2 1");
        runs("no numbers", town, objects, 5, "r0");
        Checks.missing("22 an object", () -> town.staticOf(2, 0));
        Checks.missing("22 null", () -> town.staticOf(2, 1));
    }

    /** Kinds 0 a class, 1 a structure, 2 an interface that has neither; types 2, 3 and 4. */
    private static Reifytown three() {
        Reifytown town = Towns.of("c", "s", "i");
        for (int kind = 0; kind < 3; kind++) {
            town.type(kind, -1);
        }
        town.addMethod(0, 0, 'v', Checks.body(town, "y 1", "r 1"));
        town.addMethod(0, 1, 'v', Checks.body(town, "r 1"));
        return town;
    }

    /** The steps that let the local 2 hold something. */
    private static String[] hold(char held) {
        switch (held) {
            case 'n': return new String[] {"= 2 7"};
            case 's': return new String[] {"N 2 3"};
            case 'o': return new String[] {"N 2 2"};
            case 'b': return new String[] {"B 2 1"};
            case 'B': return new String[] {"N 2 3", "B 2 2"};
            case 'd': return new String[] {"N 2 2", "D 2 2 1"};
            case 'i': return new String[] {"N 2 2", "G 2 2 0 1"};
            default: return new String[] {"d 2 2"};
        }
    }

    private static void holding(String what, char held, String due, String... steps) {
        Reifytown town = three();
        int body = Checks.body(town, hold(held));
        Checks.write(town, body, steps);
        runs(what + " with " + held, town, body, 4, due);
    }

    /** Each op with each sort of value; in due, for each of HELD, the exception, or a dot if there is none. */
    private static void operands() {
        String[][] all = {
            {"+ 3 2 1", "3.333333"}, {"+ 3 1 2", "3.333333"}, {"- 3 2 1", "3.333333"}, {"- 3 1 2", "3.333333"},
            {"< 3 2 1", "3.333333"}, {"< 3 1 2", "3.333333"}, {". 3 2 0", "13..3333"},
            {". 3 2 2", "13..3333"}, {"! 1 2 0", "13..3333"}, {"! 2 2 1", "13..3333"}, {"I 3 2 1", "133333.3"},
            {"E 3 2 4", "1333333."}, {"Q 2", "1333333."}, {"P 3 2 4", ".33333.3"}, {"P 3 4 2", ".33333.3"},
            {"P 3 2 2", ".33333.3"}, {"M 3 2 4", ".33333.3"}, {"M 3 4 2", ".33333.3"}, {"M 3 2 2", ".33333.3"},
            {"C 3 2 1 1", "133.3333"}, {"G 3 2 1 1", "133.3333"}, {"B 3 2", "........"}, {": 3 2", "........"},
            {"? 3 2 2", "........"}, {"s 2 2 0", "........"}, {"D 3 2 1", "........"}, {"T 3 2 1", "........"},
            {"y 2", "55555555"}, {"C 3 2 20 1", "13333333"}, {"C 3 2 90 1", "13333333"}, {"G 3 2 90 1", "13333333"},
        };
        for (String[] one : all) {
            for (int i = 0; i < HELD.length(); i++) {
                char due = one[1].charAt(i);
                holding("step " + one[0], HELD.charAt(i), due == '.' ? "rn8" : "u" + due, one[0], "= 5 8", "r 5");
            }
        }
        String letters = "0nsobbdi";
        for (int i = 0; i < HELD.length(); i++) {
            char held = HELD.charAt(i);
            String due = "r" + letters.charAt(i);
            holding("17 returned", held, held == 'n' ? "rn7" : due, "r 2");
            holding("put out", held, held == 'n' ? "r0 7" : "u3", "p 2");
            holding("thrown", held, held == 'n' ? "u7" : "u3", "x 2");
            holding("jump", held, held == '0' ? "rn1" : "rn2", "z 2 " + (hold(held).length + 3), "= 3 2", "r 3", "= 3 1", "r 3");
            holding("called by a delegate", held, held == '0' ? "u1" : held == 'o' ? "rn4" : "u3", "D 3 2 1", "I 4 3 1", "r 4");
            holding("no jump by a copy", held, held == '0' ? "r0" : held == 'n' ? "rn7" : due, ": 0 2", ": 2 4", "r 0");
            boolean isValue = held == 'n' || held == 's';
            holding("boxed", held, isValue ? "rb" : due, "B 2 2", "r 2");
            Reifytown town = three();
            int body = Checks.body(town, hold(held));
            Checks.write(town, body, "s 2 2 1", "r 2");
            town.run(body, 4);
            int made = town.boxes();
            Checks.same("26 of " + held, made, held == 'b' || held == 'B' ? 1 : 0);
            if (held == 'n') {
                Checks.same("22 a number", town.staticOf(2, 1), 7);
                Checks.same("18 a number", town.number(), 7);
            } else {
                Checks.missing("22 of " + held, () -> town.staticOf(2, 1));
                Checks.missing("18 of " + held, () -> town.number());
            }
            Checks.missing("19 of " + held, () -> town.unhandled());
        }
    }

    /** A step that throws leaves its locals, and what is in them, as they are. */
    private static void failedSteps() {
        String[] steps = {
            "+ 2 2 5", "- 2 5 1", "< 2 5 5", ". 2 5 0", ". 2 1 0", "! 2 1 0", "! 2 5 0", "U 2 1 2", "U 2 5 0", "U 2 1 9", "N 2 1",
            "N 2 9", "d 2 9", "T 2 1 9", "S 2 0 0", "S 2 9 0", "C 2 5 0 1", "C 2 1 0 1", "C 2 3 5 1", "G 2 5 0 1", "G 2 1 90 1",
            "E 2 5 2", "E 2 1 2", "E 2 4 2", "E 0 4 2", "C 2 3 2 1", "I 2 5 1", "I 2 1 1", "P 2 1 5", "M 2 5 1", "y 2", "x 1", "p 5",
            "Q 1", "Q 5",
        };
        for (String step : steps) {
            Reifytown town = three();
            int throwing = Checks.body(town, "! 1 0 1", "x 1");
            town.addMethod(0, 2, 'v', throwing);
            int body = Checks.body(town, "= 0 66", "= 2 77", "N 3 2", "G 4 3 2 1", "= 1 8", step, "e", "p 0", "p 1", "p 2", "? 5 3 4",
                "p 5", "N 5 2", "T 5 3 2", "r 5");
            town.addRegion(body, 5, 5, 'c', -1, 7);
            runs("a step that throws, " + step, town, body, 9, "rn1 66 8 77 0");
        }
    }

    /** A filter accepts if it returns a number other than 0, and nothing else. */
    private static void filtersThatReturn() {
        for (char held : HELD.toCharArray()) {
            Reifytown town = three();
            int filter = Checks.body(town, hold(held));
            Checks.write(town, filter, "r 2");
            int body = Checks.body(town, "x 1", "r 5", "e", "= 5 -4", "r 5");
            town.addRegion(body, 0, 0, 'w', filter, 1);
            town.addRegion(body, 0, 0, 'c', -1, 3);
            runs("a filter that returns " + held, town, body, 6, held == 'n' ? "rn6" : "rn-4");
        }
    }

    /** What makes ready has no receiver and no argument, a run no receiver; all other locals are null. */
    private static void withoutReceivers() {
        Reifytown town = Towns.of("c");
        town.type(0, -1);
        town.setReady(0, Checks.body(town, "? 2 0 5", "p 2", "? 2 1 5", "p 2", "? 2 3 5", "p 2", "? 2 4 5", "p 2"));
        town.addMethod(0, 0, 'v', Checks.body(town, "= 3 1", "= 4 2", "= 5 3", "r 1"));
        int body = Checks.body(town, "? 2 0 5", "p 2", "= 2 7", "= 3 8", "N 4 2", "C 4 4 0 1", "p 4", "N 0 2", "S 2 2 0", "p 2");
        runs("without a receiver", town, body, 6, "r0 1 6 1 1 1 1 0");
        town.addMethod(0, 1, 'v', Checks.body(town, "T 2 0 2", "p 2", "p 1", "? 2 3 4", "? 3 4 5", "- 2 2 3", "p 2"));
        runs("with both", town, Checks.body(town, "= 2 5", "= 3 6", "= 4 7", "= 5 8", "N 0 2", "C 2 0 1 5", "r 2"), 6, "r0 1 8 0");
    }

    /** 'U' for int, the structure, the class, the interface and object; in due, for each of HELD without d and i. */
    private static void unboxed() {
        String[][] all = {
            {"0", "1222.2"}, {"3", "12222."}, {"2", ".22.22"}, {"4", ".22222"}, {"1", "......"},
        };
        String letters = "0nsobb";
        for (String[] one : all) {
            for (int i = 0; i < letters.length(); i++) {
                char held = HELD.charAt(i);
                char due = one[1].charAt(i);
                String returned = "r" + letters.charAt(i);
                if (held == 'n') {
                    returned = "rn7";
                } else if (due == '.' && one[0].equals("0")) {
                    returned = "rn4";
                } else if (due == '.' && one[0].equals("3")) {
                    returned = "rs";
                }
                holding("out of it as " + one[0], held, due == '.' ? returned : "u" + due, "U 3 2 " + one[0], "r 3");
                holding("into itself as " + one[0], held, due == '.' ? returned : "u" + due, "U 2 2 " + one[0], "r 2");
            }
        }
        holding("a delegate as a value", 'd', "u2", "U 3 2 0");
        holding("an iterator as a class", 'i', "u2", "U 3 2 2");
        for (char held : HELD.toCharArray()) {
            holding("no such type ahead of a value", held, "u3", "U 3 2 5");
            holding("no such type ahead of a test", held, "u3", "T 3 2 5");
        }
    }

    private static void typesOfValues() {
        String[][] all = {
            {"0", "01001000"}, {"3", "00100100"}, {"2", "00010000"}, {"4", "00000000"}, {"1", "01111100"},
        };
        for (String[] one : all) {
            for (int i = 0; i < HELD.length(); i++) {
                holding("T of " + one[0], HELD.charAt(i), "rn" + one[1].charAt(i), "T 3 2 " + one[0], "r 3");
                holding("T of " + one[0] + " into itself", HELD.charAt(i), "rn" + one[1].charAt(i), "T 2 2 " + one[0], "r 2");
            }
        }
        Reifytown town = Towns.of("i", "s", "c", "c");
        town.addInterface(1, 0, -1);
        town.setParent(3, 2, -1);
        for (int kind = 0; kind < 4; kind++) {
            town.type(kind, -1);
        }
        runs("T of what lies above", town, Checks.body(town, "N 2 3", "B 3 2", "N 4 5", "T 1 2 2", "p 1", "T 1 3 2", "p 1",
            "T 1 4 4", "p 1", "N 4 4", "T 1 4 5", "p 1", "T 1 4 2", "p 1"), 0, "r0 1 1 1 0 0");
        runs("U of what lies above", town, Checks.body(town, "N 2 3", "B 3 2", "U 4 3 2", "? 5 4 3", "p 5", "N 4 5",
            "U 5 4 4", "? 5 5 4", "p 5", "U 5 2 2", "r 5"), 0, "rs 1 1");
        runs("U of what lies below", town, Checks.body(town, "N 4 4", "U 5 4 5"), 0, "u2");
    }

    /** Each sort of value with each: the same are only those made alike that are no references, and what is copied. */
    private static void sameness() {
        for (char one : HELD.toCharArray()) {
            for (char other : HELD.toCharArray()) {
                Reifytown town = three();
                int body = Checks.body(town, hold(one));
                Checks.write(town, body, ": 3 2");
                Checks.write(town, body, hold(other));
                Checks.write(town, body, "? 4 2 3", "p 4", "? 4 3 2", "p 4", ": 5 2", "? 4 5 2", "r 4");
                int same = one == other && "0ns".indexOf(one) >= 0 ? 1 : 0;
                runs("same " + one + " and " + other, town, body, 4, "rn1 " + same + " " + same);
            }
        }
        Reifytown town = three();
        String[] two = {"N 2 3", "N 3 3", "= 5 6"};
        for (int field = 0; field < 3; field++) {
            int body = Checks.body(town, two);
            Checks.write(town, body, "! 5 2 " + field, "? 4 2 3", "p 4", "! 5 3 " + field, "? 4 2 3", "p 4");
            runs("field " + field + " that is another one", town, body, 0, "r0 0 1");
        }
        for (char held : HELD.toCharArray()) {
            int body = town.addBody();
            Checks.write(town, body, hold(held));
            Checks.write(town, body, ": 0 2");
            Checks.write(town, body, hold(held));
            Checks.write(town, body, "N 3 3", "N 4 3", "! 0 3 1", "! 2 4 1", "? 5 3 4", "r 5");
            runs("fields with " + held, town, body, 4, "rn" + ("0ns".indexOf(held) >= 0 ? 1 : 0));
        }
    }

    /** Structures of two types, with all fields that are 0, 1, 31 or 961: the same are only those with the same fields. */
    private static void structuresThatDifferByLittle() {
        int[] numbers = {0, 1, 31, 961};
        for (int i = 0; i < 4 * 64; i++) {
            // Each number is told by two bits.
            int first = i % 4 * 16 + 5;
            int second = i / 4;
            Reifytown both = Towns.of("s", "s=-");
            both.type(0, -1);
            both.type(1, 0);
            for (int type = 2; type < 4; type++) {
                int body = Checks.body(both, "N 2 2", "N 3 " + type);
                for (int field = 0; field < 3; field++) {
                    Checks.write(both, body, "= 4 " + numbers[first >> 2 * field & 3], "! 4 2 " + field);
                    Checks.write(both, body, "= 4 " + numbers[second >> 2 * field & 3], "! 4 3 " + field);
                }
                Checks.write(both, body, "? 4 2 3", "p 4", ". 4 3 1", "p 4", ". 4 3 0", "T 5 3 3", "p 5", "r 4");
                String due = "rn" + numbers[second & 3] + " " + (first == second && type == 2 ? 1 : 0) + " "
                    + numbers[second >> 2 & 3] + " " + (type - 2);
                Checks.runs("fields " + first + " and " + second + " of " + type, both, body, 0, due);
            }
        }
    }

    /** Ten kinds with six names each: every way to call finds its own method, which is a piece of its own. */
    private static void waysOfAll() {
        for (int kind = 0; kind < 10; kind++) {
            Reifytown town = Towns.of("c", "s", "c", "s", "c", "s", "c", "s", "c", "s");
            int gives = Checks.body(town, "= 2 10", "+ 2 1 2", "y 2");
            int[] bodies = new int[6];
            for (int name = 0; name < 6; name++) {
                bodies[name] = Checks.body(town, "= 2 " + (10 + name), "+ 2 1 2", "r 2");
                town.addMethod(kind, name, name % 2 == 0 ? 'v' : 'n', bodies[name]);
                town.addMethod((kind + 2) % 10, name, 'v', gives);
            }
            town.type(kind, -1);
            town.type((kind + 2) % 10, -1);
            int calls = Checks.body(town, "N 2 2");
            int targets = Checks.body(town, "N 2 2");
            int iterators = Checks.body(town, "N 2 3");
            StringBuilder due = new StringBuilder("r0");
            StringBuilder given = new StringBuilder("r0");
            for (int name = 0; name < 6; name++) {
                Checks.write(town, calls, "C 3 2 " + (10 * kind + name) + " 1", "p 3");
                Checks.write(town, targets, "D 3 2 " + (10 * kind + name), "I 3 3 1", "p 3");
                Checks.write(town, iterators, "G 3 2 " + ((kind + 2) % 10 * 10 + name) + " 1", "E 4 3 3", "p 3");
                due.append(' ').append(110 + name);
                given.append(" 110");
            }
            runs("calls of kind " + kind, town, calls, 100, due.toString());
            Checks.same("24 calls of kind " + kind, town.pieces(), 6);
            runs("targets of kind " + kind, town, targets, 100, due.toString());
            Checks.same("24 targets of kind " + kind, town.pieces(), 6);
            Checks.same("25 targets of kind " + kind, town.calls(), 6);
            runs("iterators of another kind than " + kind, town, iterators, 100, given.toString());
            Checks.same("24 iterators, by six names", town.pieces(), 6);
            int mixed = Checks.body(town, "N 2 2");
            for (int name = 0; name < 6; name++) {
                Checks.write(town, mixed, "D 3 2 " + (10 * kind + name), "I 4 3 1", "C 4 2 " + (10 * kind + name) + " 1");
            }
            town.run(mixed, 1);
            Checks.same("24 the same pieces by both ways of " + kind, town.pieces(), 6);
            Checks.same("25 twice as many calls", town.calls(), 12);
            Reifytown idle = Towns.of("c", "s", "c", "s", "c", "s", "c", "s", "c", "s");
            int empty = idle.addBody();
            idle.type(kind, -1);
            int one = Checks.body(idle, "N 2 2");
            for (int name = 0; name < 6; name++) {
                idle.addMethod(kind, name, 'v', empty);
                Checks.write(idle, one, "D 3 2 " + (10 * kind + name), "I 4 3 1", "C 4 2 " + (10 * kind + name) + " 1");
            }
            idle.run(one, 1);
            Checks.same("24 of empty bodies by both ways of " + kind, idle.pieces(), 6);
        }
    }

    /** A number that is no type, or a kind that is not there or has no parameter: 3, ahead of any value. */
    private static void typesThatAreNotThere() {
        String[] ops = {"N 2 # 0", "d 2 # 0", "S 2 # 0", "s 1 # 0", "U 2 1 #", "T 2 1 #", "U 2 5 #", "s 5 # 1"};
        int[] wrong = {5, 6, 60, MOST, -2, -3, -4, -6, -12, -13, LEAST, LEAST + 1};
        for (String op : ops) {
            for (int n : wrong) {
                Reifytown town = three();
                runs("step " + op + " of " + n, town, Checks.body(town, op.replace("#", "" + n)), 4, "u3");
                Checks.same("6 none made by it", town.types(), 5);
            }
        }
        int[] noStatics = {0, 1, -1};
        for (int n : noStatics) {
            Reifytown town = three();
            runs("no statics of " + n, town, Checks.body(town, "S 2 " + n + " 0"), 4, "u3");
            runs("no statics to be set of " + n, town, Checks.body(town, "s 1 " + n + " 1"), 4, "u3");
        }
        Reifytown ten = Towns.of("c", "c", "c", "c", "c", "c", "c", "c", "c", "c=-");
        runs("the last kind", ten, Checks.body(ten, "N 2 -11", "r 2"), 4, "ro");
        runs("the kind ahead of it", ten, Checks.body(ten, "N 2 -10"), 4, "u3");
        runs("the kind behind it", ten, Checks.body(ten, "N 2 -12"), 4, "u3");
        Reifytown first = Towns.of("c=-");
        runs("the first kind", first, Checks.body(first, "N 2 -2", "r 2"), 4, "ro");
        runs("one less", first, Checks.body(first, "N 2 -3"), 4, "u3");
        runs("the last type", first, Checks.body(first, "N 2 2", "r 2"), 4, "ro");
        runs("the next one", first, Checks.body(first, "N 2 3"), 4, "u3");
    }

    /** Where the method is for a type without an argument, -1 and less is 6, in all steps. */
    private static void typesWithoutArgument() {
        String[] ops = {"N 2 #", "d 2 #", "S 2 # 0", "s 1 # 0", "U 2 1 #", "T 2 1 #"};
        for (String op : ops) {
            for (int n = -1; n >= -2; n--) {
                Reifytown town = Towns.of("s=-", "c");
                town.type(1, -1);
                town.addMethod(1, 0, 'v', Checks.body(town, op.replace("#", "" + n)));
                runs("without an argument " + op + " of " + n, town, Checks.body(town, "N 2 2", "C 3 2 10 1"), 4, "u6");
                Checks.same("6 none made", town.types(), 3);
                town.setReady(1, 0);
                runs("nor for statics " + op + " of " + n, town, Checks.body(town, "S 2 2 0"), 4, "u6");
                Reifytown of = Towns.of("c", "c", "c=-");
                of.type(0, -1);
                of.type(2, 0);
                of.setReady(2, Checks.body(of, op.replace("#", "" + n)));
                String due = n == -2 ? "u3" : op.charAt(0) == 'S' || op.charAt(0) == 's' ? "u3" : op.charAt(0) == 'U' ? "u1" : "r0";
                runs("of a type with one " + op + " of " + n, of, Checks.body(of, "S 2 3 0"), 4, due);
            }
        }
        Reifytown filtered = Towns.of("c");
        filtered.type(0, -1);
        int filter = Checks.body(filtered, "d 2 -1", "= 3 1", "r 3");
        int throwing = Checks.body(filtered, "x 1", "r 5");
        filtered.addRegion(throwing, 0, 0, 'w', filter, 1);
        filtered.addMethod(0, 0, 'v', throwing);
        runs("a filter for a type without one", filtered, Checks.body(filtered, "N 2 2", "C 3 2 0 1", "r 3"), 4, "u4");
        runs("a filter of the run is for int", filtered, throwing, 4, "rn4");
    }

    /** Sixty types and no more, five deep and no deeper, and what the limit allows. */
    private static void typesTooMany() {
        Reifytown full = Towns.fullOfTypes();
        runs("one that is there", full, Checks.body(full, "N 2 -3", "r 2"), 4, "ro");
        runs("the last one", full, Checks.body(full, "N 2 59", "r 2"), 4, "ro");
        runs("the sixty-first by its number", full, Checks.body(full, "N 2 60"), 4, "u3");
        int made = full.addKind('c', true, '=', '-');
        String[] ops = {"N 2 #", "d 2 #", "S 2 # 0", "s 1 # 0", "U 2 5 #", "T 2 1 #"};
        for (String op : ops) {
            String step = op.replace("#", "" + (-2 - made));
            runs("the sixty-first by " + op, full, Checks.body(full, step), 4, "u6");
            Checks.same("6 sixty", full.types(), 60);
        }
        typesTooDeep();
    }

    /** Steps make types of depth 5; a method can be for a type that is only looked at, of which -1 is as deep. */
    private static void typesTooDeep() {
        Object[][] due = {{"N 2 -2", "ro", "u6"}, {"N 2 -3", "rs", "u6"}, {"N 2 -4", "ro", "u6"}, {"N 2 -5", "u6", "u6"},
            {"d 2 -1", "r0", "r0"}, {"T 2 0 -2", "rn1", "u6"}};
        for (Object[] d : due) {
            for (int depth = 4; depth <= 5; depth++) {
                Reifytown town = Towns.of("c=-", "s=-", "c=r", "c=v", "c");
                int type = 0;
                for (int i = 1; i < depth; i++) {
                    type = town.type(0, type);
                }
                town.setParent(4, 0, type);
                town.addMethod(0, 0, 'v', Checks.body(town, (String) d[0], "r 2"));
                int child = town.type(4, -1);
                int before = town.types();
                String what = d[0] + " where the argument is of depth " + depth;
                runs(what, town, Checks.body(town, "N 2 " + child, "C 3 2 0 1", "r 3"), 4, (String) d[depth - 3]);
                boolean isMade = depth == 4 && !d[1].equals("u6") && !d[0].equals("d 2 -1");
                Checks.same("6 after " + what, town.types(), before + (isMade ? 1 : 0));
            }
        }
    }

    /** A type that a step names is made, whatever becomes of the step. */
    private static void typesByThemselves() {
        String[] ops = {"U 2 1 -2", "U 2 5 -2", "T 2 1 -2", "S 2 -2 0", "s 1 -2 1", "N 2 -2", "d 2 -2"};
        String[] due = {"u2", "r0", "r0", "r0", "r0", "u3", "r0"};
        for (int i = 0; i < ops.length; i++) {
            Reifytown town = Towns.of("i=-");
            runs("type by " + ops[i], town, Checks.body(town, ops[i]), 4, due[i]);
            Checks.same("6 made by " + ops[i], town.types(), 3);
            Checks.same("5 it is there " + ops[i], town.type(0, 0), 2);
        }
    }

    private static void newValues() {
        Object[][] due = {{0, "rn0"}, {1, "u3"}, {2, "ro"}, {3, "rs"}, {4, "u3"}, {-1, "rn0"}};
        Object[][] none = {{0, "rn0"}, {1, "r0"}, {2, "r0"}, {3, "rs"}, {4, "r0"}, {-1, "rn0"}};
        for (int i = 0; i < due.length; i++) {
            Reifytown town = three();
            runs("new " + due[i][0], town, Checks.body(town, "= 2 9", "N 2 " + due[i][0], "r 2"), 4, (String) due[i][1]);
            runs("none of " + none[i][0], town, Checks.body(town, "= 2 9", "d 2 " + none[i][0], "r 2"), 4, (String) none[i][1]);
        }
        Reifytown town = three();
        runs("each is a new one", town, Checks.body(town, "N 2 2", "N 3 2", "? 4 2 3", "r 4"), 4, "rn0");
        runs("a local of its own", town, Checks.body(town, "N 0 2", "r 0"), 4, "ro");
    }

    /** What a receiver's kind is, and what is below a static kind, whatever its argument. */
    private static void receivers() {
        Reifytown town = Towns.of("i=-", "c=-", "c=-", "s=-");
        town.addInterface(1, 0, -2);
        town.addInterface(3, 0, 1);
        town.setParent(2, 1, 1);
        int method = Checks.body(town, "r 1");
        town.addMethod(1, 0, 'v', method);
        town.addMethod(3, 0, 'v', method);
        int ofInt = town.type(1, 0);
        int ofObject = town.type(1, 1);
        int child = town.type(2, 0);
        int structure = town.type(3, 0);
        for (int type : new int[] {ofInt, ofObject, child}) {
            runs("through the class, of " + type, town, Checks.body(town, "N 2 " + type, "C 3 2 10 1", "r 3"), 4, "rn4");
        }
        runs("through the class below", town, Checks.body(town, "N 2 " + ofInt, "C 3 2 20 1"), 4, "u3");
        runs("through the child", town, Checks.body(town, "N 2 " + child, "C 3 2 20 1", "r 3"), 4, "rn4");
        runs("through the interface", town, Checks.body(town, "N 2 " + child, "C 3 2 0 1", "r 3"), 4, "rn4");
        runs("of a structure", town, Checks.body(town, "N 2 " + structure, "C 3 2 0 1", "p 3", "C 3 2 30 1", "r 3"), 4, "rn4 4");
        runs("of its box", town, Checks.body(town, "N 2 " + structure, "B 2 2", "C 3 2 0 1", "p 3", "C 3 2 30 1", "r 3"), 4,
            "rn4 4");
        runs("of a structure through a class", town, Checks.body(town, "N 2 " + structure, "C 3 2 10 1"), 4, "u3");
        runs("of an object through a structure", town, Checks.body(town, "N 2 " + ofInt, "C 3 2 30 1"), 4, "u3");
    }

    private static void receiverFaults() {
        for (String op : new String[] {"C 3 2 # 1", "G 3 2 # 1", "D 3 2 #"}) {
            String[] rest = op.charAt(0) == 'D' ? new String[] {"I 4 3 1", "r 4"} : new String[] {"r 3"};
            String good = op.charAt(0) == 'G' ? "ri" : "rn4";
            Object[][] due = {
                {'0', 1, "u1"}, {'0', 90, "u1"}, {'0', 20, "u1"}, {'0', 5, "u1"}, {'n', 1, "u3"}, {'n', 90, "u3"},
                {'s', 1, "u3"}, {'b', 1, "u3"}, {'B', 1, "u3"}, {'d', 1, "u3"}, {'i', 1, "u3"}, {'o', 1, good},
                {'o', 10, "u3"}, {'o', 20, "u3"}, {'o', 30, "u3"}, {'o', 90, "u3"}, {'o', 95, "u3"},
            };
            for (Object[] d : due) {
                Reifytown town = three();
                int body = Checks.body(town, hold((Character) d[0]));
                Checks.write(town, body, op.replace("#", "" + d[1]));
                Checks.write(town, body, rest);
                runs(op + " of " + d[0] + " through " + d[1], town, body, 4, (String) d[2]);
                if (d[2].equals("u1") || d[2].equals("u3")) {
                    Checks.same("25 no call", town.calls(), 0);
                    Checks.same("24 no piece", town.pieces(), d[0].equals('i') ? 1 : 0);
                }
            }
        }
        Reifytown none = Towns.of("i", "i", "c");
        none.addInterface(2, 0, -1);
        none.addInterface(2, 1, -1);
        none.addMethod(0, 0, 'a', -1);
        none.type(2, -1);
        String[] ops = {"C 3 2 # 1", "G 3 2 # 1"};
        for (String op : ops) {
            runs("no body of a, " + op, none, Checks.body(none, "N 2 2", op.replace("#", "0")), 4, "u4");
            runs("no method, " + op, none, Checks.body(none, "N 2 2", op.replace("#", "15")), 4, "u4");
        }
        runs("a target without a body", none, Checks.body(none, "N 2 2", "D 3 2 0", "p 1", "I 4 3 1"), 4, "u4 4");
        Checks.same("25 no call", none.calls(), 0);
    }

    /** Of several exceptions, a null receiver ahead of a static kind, and a type in the step ahead of a value. */
    private static void faultsInOrder() {
        alone("null ahead of a kind that is not there", 4, "u1", "C 3 2 90 1");
        alone("null ahead of it in G", 4, "u1", "G 3 2 90 1");
        alone("null ahead of it in I", 4, "u1", "D 3 2 90", "I 4 3 1");
        alone("a type ahead of null", 4, "u3", "U 3 2 9");
        alone("a type ahead of a number", 4, "u3", "U 3 1 9");
        alone("a type ahead of what is set", 4, "u3", "s 2 9 0");
        Reifytown town = Towns.of("c", "s=r", "s=-");
        town.type(0, -1);
        town.addMethod(0, 0, 'v', Checks.body(town, "U 3 5 -1"));
        town.addMethod(0, 1, 'v', Checks.body(town, "U 3 5 -3"));
        runs("no argument ahead of null", town, Checks.body(town, "N 2 2", "C 3 2 0 1"), 4, "u6");
        runs("no argument for a kind ahead of null", town, Checks.body(town, "N 2 2", "C 3 2 1 1"), 4, "u6");
        runs("a limit ahead of null", town, Checks.body(town, "U 3 5 -3"), 4, "u6");
        runs("then null", town, Checks.body(town, "U 3 5 -4"), 4, "u1");
        runs("the first operand or the second", town, Checks.body(town, "+ 3 5 5"), 4, "u3");
    }

    /** What a body does to the fields of its receiver stays, in the box alone. */
    private static void boxesAsReceivers() {
        Reifytown town = Towns.of("i", "s", "c");
        town.addInterface(1, 0, -1);
        int put = Checks.body(town, "! 1 0 2", ". 2 0 2", "r 2");
        int own = Checks.body(town, ": 2 0", "! 1 2 0", ". 3 0 0", "p 3", "= 0 3", "p 0");
        int again = Checks.body(town, "C 3 0 10 1", ". 2 0 2", "p 2", "G 3 0 12 1", "E 4 3 5", ". 2 0 0", "r 2");
        int gives = Checks.body(town, "! 1 0 0", "y 0");
        town.addMethod(1, 0, 'v', put);
        town.addMethod(1, 1, 'v', own);
        town.addMethod(1, 2, 'v', gives);
        town.addMethod(1, 3, 'v', again);
        town.addMethod(2, 0, 'v', put);
        town.type(1, -1);
        town.type(2, -1);
        String[] box = {"N 2 2", "B 3 2"};
        Object[][] due = {
            {"rn6 6", "C 4 3 10 1", "p 4", "U 4 3 2", ". 5 4 2", "r 5"},
            {"rn0 6", "C 4 3 0 1", "p 4", "U 4 3 2", ". 5 2 2", "r 5"},
            {"rn0 0 3", "C 4 3 11 1", "U 4 3 2", ". 5 4 0", "r 5"},
            {"rn6 6 0", "C 4 3 13 1", "p 4", "U 4 3 2", ". 5 4 2", "r 5"},
            {"rn6", "G 4 3 12 1", "E 5 4 5", "U 4 3 2", ". 5 4 0", "r 5"},
            {"rn6 6", "D 4 3 10", "I 5 4 1", "p 5", "U 4 3 2", ". 5 4 2", "r 5"},
            {"rn6", "C 4 3 10 1", "N 2 3", "C 4 2 20 1", ". 5 2 2", "r 5"},
        };
        for (Object[] d : due) {
            int body = Checks.body(town, box);
            for (int i = 1; i < d.length; i++) {
                Checks.write(town, body, (String) d[i]);
            }
            runs("a box, " + d[1] + " and " + d[2], town, body, 6, (String) d[0]);
            Checks.same("26 one box", town.boxes(), 1);
        }
    }

    /** The same of a structure, where it is: in a local, and in the receiver of a receiver. */
    private static void structuresAsReceivers() {
        for (int local = 0; local < 6; local++) {
            Reifytown town = Towns.of("s");
            int put = Checks.body(town, "! 1 0 1", "r 0");
            int deep = Checks.body(town, "C 2 0 0 1", ". 3 2 1", "p 3", "= 4 9", "! 4 2 1", ". 3 0 1", "r 3");
            town.addMethod(0, 0, 'v', put);
            town.addMethod(0, 1, 'v', deep);
            town.type(0, -1);
            String s = " " + local;
            int other = local == 5 ? 4 : 5;
            String o = " " + other;
            runs("in local " + local, town, Checks.body(town, "= 3 7", "N" + s + " 2", "= 2 7", "N" + s + " 2",
                "= " + other + " 7", "C" + o + s + " 1" + o, "p" + o, "." + o + s + " 1", "r" + o), 6, "rn7 7 7");
            int copied = Checks.body(town, "N" + s + " 2", "=" + o + " 7", "G" + o + s + " 0" + o, "E 3" + o + " 3",
                "r" + s);
            runs("copied for an iterator of local " + local, town, copied, 6, local == 3 ? "rn0" : "rs");
        }
        Reifytown same = Towns.of("s");
        same.addMethod(0, 0, 'v', Checks.body(same, "! 1 0 1", "r 0"));
        same.type(0, -1);
        runs("it becomes what is returned", same, Checks.body(same, "N 2 2", "C 2 2 0 1", ". 3 2 1", "r 3"), 6, "rn6");
        runs("what is returned is a copy", same, Checks.body(same, "N 2 2", "C 3 2 0 1", "= 4 8", "! 4 3 1", ". 5 2 1",
            "r 5"), 6, "rn6");
        runs("an argument that is itself", same, Checks.body(same, "N 2 2", "C 3 2 0 2", ". 4 2 1", ". 5 4 1", "r 5"), 6, "rn0");
    }

    /** Bodies without steps: of a run, a method, a filter, what makes ready, an iterator and a target. */
    private static void emptyBodies() {
        Reifytown town = Towns.of("c", "c");
        int empty = town.addBody();
        town.addMethod(0, 0, 'v', empty);
        town.type(0, -1);
        town.type(1, -1);
        runs("an empty run", town, empty, 4, "r0");
        Checks.same("23 no steps", town.steps(), 0);
        Checks.arithmetic("29 no calls", () -> town.pieceShare());
        runs("an empty method", town, Checks.body(town, "N 2 2", "= 3 5", "C 3 2 0 1", "r 3"), 4, "r0");
        Checks.same("25 one call", town.calls(), 1);
        Checks.same("24 one piece", town.pieces(), 1);
        Checks.same("23 four steps", town.steps(), 4);
        runs("an empty iterator", town, Checks.body(town, "N 2 2", "G 3 2 0 1", "= 5 8", "E 4 3 5", "p 4", "p 5", "E 4 3 5",
            "Q 3", "r 4"), 4, "rn0 0 8");
        runs("an empty target", town, Checks.body(town, "N 2 2", "D 3 2 0", "= 4 5", "I 4 3 1", "r 4"), 4, "r0");
        Checks.same("25 one call of it", town.calls(), 1);
        town.setReady(1, empty);
        runs("nothing to make ready", town, Checks.body(town, "S 2 3 0", "S 3 3 1", "r 2"), 4, "rn0");
        Checks.same("25 one call to make ready", town.calls(), 1);
        int filtered = Checks.body(town, "x 1", "r 5");
        town.addRegion(filtered, 0, 0, 'w', empty, 1);
        runs("an empty filter", town, filtered, 4, "u4");
        Checks.same("25 one call of it", town.calls(), 1);
        int watched = town.addBody();
        town.addRegion(watched, 0, 0, 'f', 0, 1);
        town.addMethod(0, 1, 'v', watched);
        runs("an empty body with a region", town, watched, 4, "r0");
        Checks.same("23 its end is a step", town.steps(), 1);
        Checks.same("27 once", town.finals(), 1);
        runs("it as a target", town, Checks.body(town, "N 2 2", "D 3 2 1", "D 4 2 0", "P 3 3 4", "I 4 3 1", "r 4"), 4, "r0");
        Checks.same("23 one more than its own", town.steps(), 7);
        Checks.same("27 once too", town.finals(), 1);
        Checks.same("25 two calls", town.calls(), 2);
        int beside = town.addBody();
        town.addRegion(beside, 1, 1, 'f', 0, 0);
        town.addRegion(beside, 0, 0, 'c', -1, 1);
        runs("an empty body with regions elsewhere", town, beside, 4, "r0");
        Checks.same("23 its end is none", town.steps(), 0);
        Checks.same("27 none", town.finals(), 0);
    }

    /** A delegate without targets is null. */
    private static void emptyDelegates() {
        String[] one = {"N 2 2", "D 3 2 1"};
        Object[][] due = {
            {"r0", "P 4 5 5", "r 4"}, {"r0", "M 4 3 3", "r 4"}, {"r0", "M 4 5 5", "r 4"}, {"r0", "M 4 5 3", "r 4"},
            {"rd", "M 4 3 5", "r 4"}, {"rd", "P 4 3 5", "r 4"}, {"rd", "P 4 5 3", "r 4"}, {"u1", "M 4 3 3", "I 5 4 1"},
            {"u1", "P 4 5 5", "I 5 4 1"}, {"rn1", "M 4 3 3", "? 4 4 5", "r 4"}, {"r0", "P 4 3 3", "M 4 4 4", "r 4"},
            {"rd", "P 4 3 3", "M 4 4 3", "r 4"}, {"r0", "P 4 3 3", "M 4 4 3", "M 4 4 3", "r 4"}, {"rd", "P 4 3 3", "M 4 3 4", "r 4"},
            {"rn6", "M 4 3 3", "P 4 4 3", "I 5 4 1", "r 5"}, {"rn6", "M 4 3 5", "I 5 4 1", "r 5"},
            {"rn6", "M 4 3 3", "M 4 3 4", "I 5 4 1", "r 5"}, {"r0", "M 4 3 3", "P 4 4 4", "r 4"},
            {"rn8", "M 4 3 3", "z 4 6", "x 1", "e", "= 5 8", "r 5"},
        };
        for (Object[] d : due) {
            Reifytown town = three();
            int body = Checks.body(town, one);
            StringBuilder what = new StringBuilder("without targets");
            for (int i = 1; i < d.length; i++) {
                Checks.write(town, body, (String) d[i]);
                what.append(", ").append(d[i]);
            }
            runs(what.toString(), town, body, 6, (String) d[0]);
        }
    }

    /** Kinds 1 a structure and 2 a class, of the types 2 and 3, with the interface 0 and two methods. */
    private static Reifytown aimed() {
        Reifytown town = Towns.of("i", "s", "c");
        town.addInterface(1, 0, -1);
        town.addInterface(2, 0, -1);
        int put = Checks.body(town, "! 1 0 0", "r 1");
        for (int name = 0; name < 2; name++) {
            town.addMethod(1, name, 'v', put);
            town.addMethod(2, name, 'v', put);
        }
        town.type(1, -1);
        town.type(2, -1);
        return town;
    }

    /** Targets are the same if their receivers, kinds and names are; a structure in one is its own. */
    private static void targets() {
        Object[][] due = {
            {"r0", "N 2 3", "D 3 2 20", "D 4 2 20"}, {"rd", "N 2 3", "D 3 2 20", "D 4 2 21"},
            {"rd", "N 2 3", "D 3 2 20", "D 4 2 0"}, {"rd", "N 2 3", "D 3 2 20", "N 2 3", "D 4 2 20"},
            {"r0", "N 2 2", "D 3 2 10", "N 2 2", "D 4 2 10"}, {"rd", "N 2 2", "D 3 2 10", "! 1 2 2", "D 4 2 10"},
            {"rd", "N 2 2", "D 3 2 10", "B 2 2", "D 4 2 10"}, {"r0", "N 2 2", "B 2 2", "D 3 2 10", "D 4 2 10"},
            {"rd", "N 2 2", "D 3 2 10", "D 4 2 10", "I 5 3 1"}, {"r0", "N 2 2", "D 3 2 10", "D 4 2 10", "I 5 3 1", "I 5 4 1"},
            {"r0", "N 2 2", "D 3 2 10", "P 4 3 5", "I 5 3 1"}, {"r0", "D 3 1 20", "D 4 1 20"}, {"r0", "D 3 5 20", "D 4 2 20"},
            {"rd", "= 2 7", "D 3 2 20", "D 4 1 20"}, {"r0", "N 2 3", "D 3 2 20", "D 4 2 20", "I 5 3 1"},
        };
        for (Object[] d : due) {
            Reifytown town = aimed();
            int body = town.addBody();
            StringBuilder what = new StringBuilder("targets");
            for (int i = 1; i < d.length; i++) {
                Checks.write(town, body, (String) d[i]);
                what.append(", ").append(d[i]);
            }
            Checks.write(town, body, "M 5 3 4", "r 5");
            runs(what.toString(), town, body, 6, (String) d[0]);
        }
        Reifytown rows = three();
        runs("the last of many", rows, Checks.body(rows, "N 2 2", "D 3 2 1", "N 2 2", "D 4 2 1", "P 5 3 4", "P 5 5 3", "M 0 5 3",
            "P 2 3 4", "M 0 0 2", "r 0"), 6, "r0");
        runs("what is left is a new one", rows, Checks.body(rows, "N 2 2", "D 3 2 1", "P 4 3 3", "M 5 4 3", "? 0 5 3", "r 0"), 6,
            "rn0");
    }

    private static Reifytown iterating(String... steps) {
        Reifytown town = Towns.of("c");
        town.type(0, -1);
        town.addMethod(0, 0, 'v', Checks.body(town, steps));
        return town;
    }

    /** None, one, or two values given; at the end and when it is over, the local for them stays as it is. */
    private static void iteratorEnds() {
        String[] ask = {"N 2 2", "G 3 2 0 1", "= 5 8", "E 4 3 5", "p 4", "p 5", "E 4 3 5", "p 4", "p 5", "E 4 3 5", "p 4", "p 5",
            "E 4 3 5", "p 4", "p 5"};
        Object[][] due = {
            {"r0 0 8 0 8 0 8 0 8"}, {"r0 0 8 0 8 0 8 0 8", "r 1"}, {"r0 1 6 0 6 0 6 0 6", "y 1"},
            {"r0 1 6 0 6 0 6 0 6", "y 1", "r 1"}, {"r0 1 6 1 6 0 6 0 6", "y 1", "y 1"},
            {"r0 1 6 1 7 0 7 0 7", "y 1", "= 2 7", "y 2", "j 0 24"},
        };
        for (Object[] d : due) {
            String[] steps = new String[d.length - 1];
            System.arraycopy(d, 1, steps, 0, steps.length);
            Reifytown town = iterating(steps);
            runs("iterator of " + steps.length + " steps", town, Checks.body(town, ask), 6, (String) d[0]);
            Checks.same("25 no calls", town.calls(), 0);
            Checks.same("24 one piece", town.pieces(), 1);
        }
        Reifytown last = iterating("j 0 23", "e", "e", "e", "e", "e", "e", "e", "e", "e", "e", "e", "e", "e", "e", "e", "e", "e",
            "e", "e", "e", "e", "e", "y 1");
        runs("gives at the last step", last, Checks.body(last, "N 2 2", "G 3 2 0 1", "E 4 3 5", "p 4", "p 5", "E 4 3 5", "r 4"), 6,
            "rn0 1 6");
        Reifytown none = iterating("y 5", "y 0");
        runs("gives null", none, Checks.body(none, "N 2 2", "G 3 2 0 1", "= 5 8", "E 4 3 5", "p 4", "r 5"), 6, "r0 1");
        runs("gives its receiver", none, Checks.body(none, "N 2 2", "G 3 2 0 1", "E 4 3 5", "E 4 3 5", "? 5 5 2", "r 5"), 6, "rn1");
        runs("one that is over", none, Checks.body(none, "N 2 2", "G 3 2 0 1", "Q 3", "= 5 8", "E 4 3 5", "p 4", "Q 3", "r 5"), 6,
            "rn8 0");
    }

    private static void iteratorFaults() {
        Reifytown town = iterating("x 1", "y 1");
        int body = Checks.body(town, "N 2 2", "G 3 2 0 1", "E 4 3 5", "e", "p 5", "E 4 3 5", "p 4", "Q 3", "r 4");
        town.addRegion(body, 2, 2, 'c', -1, 4);
        runs("over by what it throws", town, body, 6, "rn0 6 0");
        Reifytown itself = iterating(". 2 0 0", "E 3 2 4", "y 1");
        runs("E of itself", itself, Checks.body(itself, "N 2 2", "G 3 2 0 1", "! 3 2 0", "E 4 3 5"), 6, "u5");
        Reifytown ends = iterating(". 2 0 0", "Q 2", "y 1");
        runs("Q of itself", ends, Checks.body(ends, "N 2 2", "G 3 2 0 1", "! 3 2 0", "E 4 3 5"), 6, "u5");
        Reifytown other = iterating(". 2 0 0", "E 3 2 4", "y 4");
        other.addMethod(0, 1, 'v', Checks.body(other, "y 1"));
        runs("E of another one", other, Checks.body(other, "N 2 2", "G 3 2 1 1", "! 3 2 0", "G 4 2 0 5", "E 5 4 5", "p 5",
            "E 5 3 5", "r 5"), 6, "rn0 6");
        alone("y in a run", 6, "u5", "y 1");
        alone("y in a run, without a value", 6, "u5", "y 5");
        Reifytown method = Towns.of("c");
        method.type(0, -1);
        int gives = Checks.body(method, "y 1");
        method.addMethod(0, 0, 'v', gives);
        method.addMethod(0, 1, 'v', Checks.body(method, "C 2 0 0 1", "y 1"));
        runs("y in a method", method, Checks.body(method, "N 2 2", "C 3 2 0 1"), 6, "u5");
        runs("y in a target", method, Checks.body(method, "N 2 2", "D 3 2 0", "I 4 3 1"), 6, "u5");
        runs("y in a method that an iterator calls", method, Checks.body(method, "N 2 2", "G 3 2 1 1", "E 4 3 5"), 6, "u5");
        method.setReady(0, gives);
        runs("y in what makes ready", method, Checks.body(method, "S 2 2 0"), 6, "u5");
        int filtered = Checks.body(method, "x 1", "r 5");
        method.addRegion(filtered, 0, 0, 'w', gives, 1);
        runs("y in a filter", method, filtered, 6, "u6");
    }
}
