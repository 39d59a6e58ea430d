import java.util.ArrayList;
import java.util.List;
import java.util.Random;

/** Promise 15, delegates: rows of any length, what 'M' takes out of them, and calls that take no step. */
public final class RowsTest {
    public static void main(String[] args) {
        int from = args.length > 1 ? Integer.parseInt(args[0]) : 0;
        int to = args.length > 1 ? Integer.parseInt(args[1]) : 1500;
        longRowsAreKept();
        manyRowsAreKept();
        targetsInThousands();
        beyondAllNumbers();
        callsWithoutSteps();
        callsWithoutStepsThrow();
        changedReceivers();
        rowsOfEachLength();
        noFourthPowers();
        allSmallRows();
        shareOfCalls();
        callsAroundPowers();
        for (int seed = from; seed < to; seed += 10) {
            randomLongRows(seed);
        }
        for (int seed = from; seed < to; seed++) {
            randomRows(seed);
            randomRounds(seed);
            randomWords(seed);
            randomTakes(seed);
            randomSpelling(seed);
        }
        Checks.close("RowsTest");
    }

    /** A town whose kind 0 has the names 0, 1, 2 that put out 1, 2, 3 in two steps each, and 3 and 4 without steps. */
    private static Reifytown town() {
        Reifytown town = new Reifytown();
        town.addKind('c', false, '=', '-');
        town.type(0, -1);
        for (int name = 0; name < 3; name++) {
            town.addMethod(0, name, 'v', Checks.body(town, "= 2 " + (name + 1), "p 2"));
        }
        town.addMethod(0, 3, 'v', Checks.body(town));
        town.addMethod(0, 4, 'v', Checks.body(town));
        return town;
    }

    private static int body(Reifytown town, String... steps) {
        return Checks.body(town, steps);
    }

    /** The local becomes a delegate that is doubled so often; the locals 4 and 5 are used. */
    private static List<String> doubled(int name, int local, int times, int at) {
        List<String> steps = new ArrayList<>();
        steps.add("D " + local + " 2 " + name);
        steps.add("= 4 " + times);
        steps.add("= 5 1");
        steps.add("P " + local + " " + local + " " + local);
        steps.add("- 4 4 5");
        steps.add("z 4 " + (at + 7));
        steps.add("j 0 " + (at + 3));
        return steps;
    }

    private static int twoRows(Reifytown town, int first, int second, String... more) {
        int body = body(town, "N 2 2");
        List<String> steps = doubled(0, 1, first, 1);
        steps.addAll(doubled(1, 3, second, 8));
        Checks.write(town, body, steps.toArray(new String[0]));
        Checks.write(town, body, more);
        return body;
    }

    private static void longRowsAreKept() {
        for (int times : new int[] {1, 11, 12, 13, 20, 31, 32, 40, 59, 60, 61, 90, 110}) {
            Reifytown town = town();
            int body = twoRows(town, times, 1, "P 4 1 3", "M 4 4 1", "I 5 4 1", "r 5");
            Checks.runs("15 the row behind a long one, " + times, town, body, 0, "r0 2 2");
            town = town();
            body = twoRows(town, times, times, "P 4 3 1", "M 4 4 3", "M 4 4 1", "r 4");
            Checks.runs("15 both rows taken out, " + times, town, body, 0, "r0");
            town = town();
            body = twoRows(town, times, times, "P 4 1 3", "P 4 4 1", "M 4 4 3", "M 4 4 1", "M 4 4 1", "r 4");
            Checks.runs("15 from the middle, " + times, town, body, 0, "r0");
            town = town();
            body = twoRows(town, times, times, "P 4 3 1", "M 5 4 4", "? 5 5 1", "M 4 1 3", "? 4 4 1", "r 4");
            Checks.runs("15 no such row, " + times, town, body, 0, "rn1");
        }
    }

    private static void manyRowsAreKept() {
        Reifytown town = town();
        int body = twoRows(town, 12, 180, "P 1 1 1", "P 1 1 1", "P 4 1 3", "D 5 2 2", "r 5");
        Checks.runs("15 a delegate after many long ones", town, body, 0, "rd");
    }

    private static void targetsInThousands() {
        Reifytown town = town();
        int body = twoRows(town, 12, 1, "P 1 1 3", "I 5 1 1", "r 5");
        Checks.same("15 a long row has too many steps", town.run(body, 0), 'l');
        int ahead = 1 + (3 + 4 * 12 - 1) + (3 + 4 - 1) + 2;
        Checks.same("25 the calls of it until then, with the one that is cut", town.calls(), (1000 - ahead) / 2 + 1);
    }

    /** Rows of 2 to the power of n, and of some more targets, in one another. */
    private static void beyondAllNumbers() {
        for (int times : new int[] {1, 2, 9, 30, 31, 32, 57, 58, 59, 60, 61, 62, 63, 64, 100, 118, 119, 120, 121, 160}) {
            Reifytown town = town();
            int body = twoRows(town, times, 1, "P 1 1 3", "M 1 1 3", "I 5 1 1", "r 5");
            Checks.same("15 a long row is called, " + times, town.run(body, 0), times < 8 ? 'r' : 'l');
            town = town();
            body = oneRow(town, times, "P 4 1 3", "P 5 1 4", "M 5 5 4", "P 4 1 1", "P 4 4 3", "P 5 1 3", "M 4 4 5", "M 4 4 1", "r 4");
            Checks.runs("15 the end of a long row, " + times, town, body, 0, "r0");
            town = town();
            body = oneRow(town, times, "P 4 1 1", "P 4 4 3", "P 5 1 3", "M 4 4 5", "M 5 1 1", "? 5 5 0", "M 4 4 1", "P 4 4 3",
                "I 4 4 1", "r 5");
            Checks.runs("15 all of a long row, " + times, town, body, 0, "rn1 2");
            town = town();
            body = oneRow(town, times, "P 5 3 1", "P 4 1 5", "P 4 4 4", "P 5 5 1", "M 4 4 5", "P 5 1 1", "M 4 4 5", "M 4 4 3",
                "M 4 4 5", "r 4");
            Checks.runs("15 across the parts of a long row, " + times, town, body, 0, "r0");
            town = town();
            body = oneRow(town, times, "P 5 1 3", "P 4 5 5", "P 4 4 4", "P 5 3 5", "M 4 4 5", "M 4 4 5", "P 5 1 3", "M 4 4 1",
                "P 4 4 3", "M 4 4 5", "r 4");
            Checks.runs("15 out of rows that repeat themselves, " + times, town, body, 0, "r0");
            town = town();
            body = oneRow(town, times, "P 4 1 3", "P 5 4 4", "P 5 5 4", "P 4 5 1", "P 0 3 1", "P 0 0 1", "P 4 4 0", "M 4 4 5",
                "M 4 4 0", "M 4 4 1", "r 4");
            Checks.runs("15 a row that repeats itself out of another, " + times, town, body, 0, "r0");
            town = town();
            body = oneRow(town, times, "P 4 1 3", "P 5 4 4", "P 5 5 4", "P 0 5 3", "P 5 5 1", "P 4 3 1", "P 5 5 4", "P 4 3 3",
                "P 5 5 4", "M 5 5 0", "P 4 1 3", "M 5 5 4", "M 5 5 4", "r 5");
            Checks.runs("15 one that repeats itself up to its end, " + times, town, body, 0, "r0");
            town = town();
            body = oneRow(town, times, "P 4 1 3", "P 5 4 4", "P 5 5 5", "P 5 5 5", "P 5 5 5", "P 5 5 5", "P 0 5 1", "P 4 3 1",
                "P 4 4 1", "P 0 0 4", "M 0 0 5", "M 0 0 4", "M 0 0 1", "r 0");
            Checks.runs("15 one that repeats itself often, " + times, town, body, 0, "r0");
            town = town();
            body = oneRow(town, times, "D 5 2 0", "P 4 5 3", "M 0 1 5", "P 4 4 0", "P 5 1 3", "M 0 5 4", "? 0 0 5", "r 0");
            Checks.runs("15 one target at other ends of long rows, " + times, town, body, 0, "rn1");
        }
        Reifytown town = town();
        int body = twoRows(town, 100, 100, "P 3 3 1", "P 3 3 3", "M 5 3 1", "M 5 5 1", "r 5");
        Checks.runs("15 taken out beyond all numbers", town, body, 0, "rd");
    }

    /** The local 1 becomes a row of the name 0 that is doubled so often, the local 3 one of the name 1. */
    private static int oneRow(Reifytown town, int times, String... more) {
        int body = body(town, "N 2 2");
        Checks.write(town, body, doubled(0, 1, times, 1).toArray(new String[0]));
        Checks.write(town, body, "D 3 2 1");
        Checks.write(town, body, more);
        return body;
    }

    private static void callsWithoutSteps() {
        for (int times : new int[] {0, 1, 12, 20, 30, 58, 59, 60, 61, 100, 200}) {
            Reifytown town = town();
            int body = body(town, "N 2 2");
            Checks.write(town, body, doubled(3, 1, times + 1, 1).toArray(new String[0]));
            Checks.write(town, body, "D 3 2 1", "P 3 1 3", "I 4 3 1", "I 4 3 1", "I 0 1 1", "r 0");
            long calls = 3L * (2L << Math.min(times, 40)) + 2;
            Checks.runs("15 calls without steps, " + times, town, body, 0, "r0 2 2");
            Checks.same("25 are counted, " + times, town.calls(), (int) Math.min(Integer.MAX_VALUE, calls));
            Checks.same("24 are one piece, " + times, town.pieces(), 2);
            Checks.same("23 and are no step, " + times, town.steps(), 4 + 4 * (times + 1) - 1 + 3 + 3 + 4 - 1 + 1);
        }
        Reifytown town = town();
        int body = body(town, "N 2 2", "D 1 2 3", "D 3 2 4", "P 3 1 3", "P 3 3 3", "= 5 7", "I 5 3 1", "r 5");
        Checks.runs("15 what a call without steps returns", town, body, 0, "r0");
        Checks.same("24 two pieces", town.pieces(), 2);
        Checks.same("25 four calls", town.calls(), 4);
        town = town();
        body = body(town, "N 2 2", "D 1 2 3", "D 3 2 4", "I 5 3 1", "r 5");
        Checks.runs("15 one of two without steps is called", town, body, 0, "r0");
        Checks.same("24 one piece", town.pieces(), 1);
    }

    private static void callsWithoutStepsThrow() {
        Reifytown town = town();
        int body = body(town, "N 2 2", "D 1 2 3", "P 1 1 1", "D 3 2 5", "P 3 1 3", "P 3 3 1", "I 5 3 1", "r 5");
        Checks.runs("15 no method behind calls without steps", town, body, 0, "u4");
        Checks.same("25 the calls until then", town.calls(), 2);
        town = town();
        body = body(town, "N 2 2", "D 1 2 3", "P 1 1 1", "D 3 4 3", "P 3 3 1", "I 5 3 1", "r 5");
        Checks.runs("15 a receiver that is null ahead of calls without steps", town, body, 0, "u1");
        Checks.same("25 no calls", town.calls(), 0);
        town = town();
        town.addMethod(0, 5, 'v', body(town, "z 1 5", "= 2 1", "- 1 1 2", "C 3 0 5 1", "r 3", ". 3 0 0", "I 3 3 1", "r 3"));
        body = body(town, "N 2 2", "D 3 2 3", "P 3 3 3", "! 3 2 0", "C 3 2 5 1", "r 3");
        Checks.runs("15 calls without steps as the twelfth call", town, body, 9, "r0");
        Checks.same("25 calls with the eleven", town.calls(), 12);
        Checks.runs("15 calls without steps beyond 12", town, body, 10, "u6");
        Checks.same("25 no calls beyond", town.calls(), 11);
        Checks.same("23 the end of a body without steps is one if it is watched", watchedEnd(), "r0 2 2");
    }

    /** The end of a body without steps is a step if something is told at last there. */
    private static String watchedEnd() {
        Reifytown town = town();
        int empty = town.addBody();
        town.addRegion(empty, 0, 0, 'f', 0, 3);
        town.addMethod(0, 5, 'v', empty);
        int body = body(town, "N 2 2", "D 1 2 5", "P 1 1 1", "D 3 2 3", "P 1 1 3", "I 5 1 1", "r 5");
        town.run(body, 0);
        return Checks.tells(town) + " " + (town.steps() - 7) + " " + town.finals();
    }

    /** A structure that a target has as its receiver is changed by calls, and so is what the target is like. */
    private static void changedReceivers() {
        Reifytown town = new Reifytown();
        town.addKind('s', false, '=', '-');
        town.type(0, -1);
        town.addMethod(0, 0, 'v', body(town, ". 2 0 0", "= 3 1", "+ 2 2 3", "! 2 0 0", "p 2"));
        int body = body(town, "N 2 2", "D 1 2 0", "D 3 2 0", "P 4 1 3", "M 5 4 1", "I 0 5 0", "M 5 4 3", "I 0 5 0",
            "I 0 3 0", "I 0 3 0", "M 5 4 3", "I 0 5 0", "M 5 4 1", "M 5 5 3", "r 5");
        Checks.runs("15 receivers that are changed", town, body, 0, "r0 1 2 1 2 3");
    }

    /** Rows of so many parts that the room for them grows. */
    private static void rowsOfEachLength() {
        for (int times = 1; times < 75; times++) {
            Reifytown town = town();
            int body = body(town, "N 2 2", "D 1 2 3", "D 3 2 4", "= 4 " + times, "= 5 1", "P 1 1 3", "P 1 1 3", "P 1 1 3",
                "P 0 1 3", "P 1 0 3", "- 4 4 5", "z 4 13", "j 0 5", "M 4 0 3", "M 4 4 0", "M 5 1 0", "M 0 1 3", "I 0 0 4",
                "D 2 2 0", "P 5 5 2", "I 0 5 4", "r 0");
            Checks.runs("15 a row of " + (5 * times + 1), town, body, 0, "r0 1");
            Checks.same("25 the calls of a row of " + (5 * times + 1), town.calls(), 5 * times + 2);
        }
    }

    /** Rows like those of Fibonacci have each of their beginnings again and again, but never four times in a row. */
    private static void noFourthPowers() {
        for (int times : new int[] {1, 2, 3, 10, 30, 60}) {
            for (int more : new int[] {1, 2, 3, 20, 40, 80}) {
                Reifytown town = town();
                int body = body(town, "N 2 2", "D 1 2 0", "D 3 2 1", "= 4 " + times, "= 5 1", "P 1 1 3", "P 3 3 1",
                    "- 4 4 5", "z 4 10", "j 0 5", "P 0 1 1", "P 0 0 0", "= 4 " + more, "P 1 1 3", "P 3 3 1",
                    "- 4 4 5", "z 4 18", "j 0 13", "M 4 1 0", "? 4 4 1", "r 4");
                Checks.runs("15 no fourth power, " + times + " and " + more, town, body, 0, "rn1");
                town = town();
                body = body(town, "N 2 2", "D 1 2 0", "D 3 2 1", "= 4 " + times, "= 5 1", "P 1 1 3", "P 3 3 1",
                    "- 4 4 5", "z 4 10", "j 0 5", "P 0 1 1", "= 4 " + (more + 5), "P 1 1 3", "P 3 3 1", "- 4 4 5",
                    "z 4 17", "j 0 12", "M 4 1 0", "? 4 4 1", "r 4");
                Checks.runs("15 but two in a row, " + times + " and " + more, town, body, 0, "rn0");
            }
        }
    }

    /** All rows of two names up to six targets, with all up to four taken out, made from the front and from the end. */
    private static void allSmallRows() {
        for (int row = 2; row < 128; row++) {
            for (int less = 2; less < 32; less++) {
                Reifytown town = town();
                String text = Integer.toBinaryString(row).substring(1);
                String taken = Integer.toBinaryString(less).substring(1);
                int at = text.lastIndexOf(taken);
                String left = at < 0 ? text : text.substring(0, at) + text.substring(at + taken.length());
                StringBuilder due = new StringBuilder(left.isEmpty() ? "u1" : "r0");
                for (char name : left.toCharArray()) {
                    due.append(' ').append(name - '0' + 1);
                }
                int body = body(town, "N 2 2", "D 3 2 0", "D 4 2 1");
                boolean isFront = (row + less) % 2 == 0;
                write(town, body, 0, text, isFront);
                write(town, body, 5, taken, !isFront);
                Checks.write(town, body, "M 1 0 5", "I 1 1 2");
                Checks.runs("15 " + taken + " out of " + text, town, body, 0, due.toString());
            }
        }
    }

    /** The names 0 and 1 are held by the locals 3 and 4. */
    private static void write(Reifytown town, int body, int local, String names, boolean isFront) {
        Checks.write(town, body, "d " + local + " 2");
        for (int i = 0; i < names.length(); i++) {
            int name = names.charAt(isFront ? i : names.length() - 1 - i) - '0' + 3;
            Checks.write(town, body, "P " + local + (isFront ? " " + local + " " + name : " " + name + " " + local));
        }
    }

    /** The share of more calls than an int or a long tells. */
    private static void shareOfCalls() {
        for (int times : new int[] {0, 1, 24, 31, 40, 59, 60, 61, 64, 100, 127, 128, 129, 200}) {
            Reifytown town = town();
            int body = body(town, "N 2 2");
            Checks.write(town, body, doubled(3, 1, times + 1, 1).toArray(new String[0]));
            Checks.write(town, body, "D 3 2 4", "P 3 3 1", "I 0 3 1", "I 4 3 1", "r 0");
            town.run(body, 0);
            // 2 to the power of times + 2, and 2 more: a float tells them only if there are not too many.
            double calls = 2;
            for (int i = 0; i < times + 1; i++) {
                calls = calls * 2;
            }
            Checks.same("29 the share of many calls, " + times, town.pieceShare(), 2f / (float) (calls + 2));
        }
        // Just above the middle of two floats, and just in it: 2 to the power of 40, of 16, and one or none.
        for (int more = 0; more < 2; more++) {
            Reifytown town = town();
            int body = body(town, "N 2 2", "D 1 2 3", "D 0 2 3", "= 4 16", "= 5 1", "P 1 1 1", "- 4 4 5", "z 4 9", "j 0 5",
                ": 3 1", "= 4 24", "P 3 3 3", "- 4 4 5", "z 4 15", "j 0 11", "P 1 1 3", "I 4 1 1", "z 2 20", "= 4 " + more, "z 4 21",
                "I 4 0 1", "r 4");
            town.run(body, 0);
            long calls = (1L << 40) + (1L << 16) + more;
            Checks.same("29 the nearest float, " + more, town.pieceShare(), 1f / (float) calls);
        }
    }

    /** As many calls as a power of 2, and one less or more, as it is and with a 1 in the midst of its digits. */
    private static void callsAroundPowers() {
        for (int power : new int[] {1, 2, 7, 8, 15, 16, 23, 24, 25, 29, 30, 31, 32, 39, 40, 41, 58, 59, 60, 61}) {
            for (int lower : new int[] {0, power / 2, power * 3 / 5}) {
                for (int more = -1; more <= 1; more++) {
                    Reifytown town = town();
                    int body = body(town, "N 2 2", "D 3 2 3", ": 1 3", "= 4 " + lower, "= 5 1", "z 4 9", "P 1 1 1", "- 4 4 5", "j 0 5",
                        lower == 0 ? "e" : "P 1 1 3", "= 4 " + (power - lower), "z 4 15", "P 1 1 1", "- 4 4 5", "j 0 11",
                        more < 0 ? "M 1 1 3" : more > 0 ? "P 1 1 3" : "e", "I 4 1 5", "r 4");
                    Checks.runs("15 calls around powers", town, body, 0, "r0");
                    long calls = (1L << power) + (lower == 0 ? 0 : 1L << power - lower) + more;
                    String what = " calls, 2 to the power of " + power + " and " + lower + " and " + more;
                    Checks.same("25" + what, town.calls(), (int) Math.min(Integer.MAX_VALUE, calls));
                    Checks.same("24" + what, town.pieces(), 1);
                    Checks.same("29" + what, town.pieceShare(), 1f / (float) calls);
                }
            }
        }
    }

    /** Much longer rows than lists hold: the last row is taken out ahead of a target that is in none. */
    private static void randomLongRows(int seed) {
        Random random = new Random(seed);
        int[] own = {0, 3, 4, 5};
        Reifytown town = town();
        int body = body(town, "N 2 2", "D 0 2 0", "D 3 2 1", "P 4 0 3", "P 5 3 0", "= 2 1");
        int changes = 3 + random.nextInt(5);
        for (int i = 0; i < changes; i++) {
            Checks.write(town, body, "P " + own[random.nextInt(4)] + " " + own[random.nextInt(4)] + " " + own[random.nextInt(4)]);
        }
        int behind = 6 + changes;
        int front = own[random.nextInt(4)];
        int end = own[random.nextInt(4)];
        Checks.write(town, body, "- 1 1 2", "z 1 " + (behind + 3), "j 0 6", "N 2 2", "D 2 2 2", "P 1 " + front + " " + end,
            "P 1 1 2", "M 1 1 " + end, "M 1 1 " + front, "M 1 1 2", "r 1");
        Checks.runs("15 random long rows " + seed, town, body, 1 + random.nextInt(900 / (changes + 3)), "r0");
    }

    // ---- random rows, held against plain lists

    /** Delegates of up to three names are joined and taken out of one another, and one of them is called. */
    private static void randomRows(int seed) {
        Random random = new Random(seed);
        int letters = 1 + random.nextInt(3);
        Reifytown town = town();
        int body = town.addBody();
        Checks.write(town, body, "N 2 2");
        List<List<Integer>> locals = new ArrayList<>();
        for (int i = 0; i < 6; i++) {
            locals.add(new ArrayList<>());
        }
        int[] own = {1, 3, 4, 5};
        for (int i = 0; i < letters; i++) {
            Checks.write(town, body, "D " + own[i] + " 2 " + i);
            locals.get(own[i]).add(i);
        }
        int steps = letters + 1;
        for (; steps < 22; steps++) {
            int a = own[random.nextInt(4)];
            int b = own[random.nextInt(4)];
            int c = own[random.nextInt(4)];
            List<Integer> one = locals.get(b);
            List<Integer> other = locals.get(c);
            boolean isLess = random.nextInt(5) < 2 || one.size() + other.size() > 6000;
            Checks.write(town, body, (isLess ? "M " : "P ") + a + " " + b + " " + c);
            rounds(locals, new int[][] {{isLess ? 0 : 1, a, b, c}}, 1);
        }
        int asked = own[random.nextInt(4)];
        Checks.write(town, body, "I 0 " + asked + " 2", "r 0");
        town.run(body, 0);
        Checks.same("15 random rows " + seed, Checks.tells(town), due(locals.get(asked), steps));
    }

    /** The same steps again and again make rows that repeat themselves, and nearly do so. */
    private static void randomRounds(int seed) {
        Random random = new Random(seed);
        int[] own = {0, 3, 4, 5};
        int letters = 1 + random.nextInt(3);
        Reifytown town = town();
        int body = body(town, "N 2 2");
        List<List<Integer>> locals = new ArrayList<>();
        for (int i = 0; i < 6; i++) {
            locals.add(new ArrayList<>());
        }
        for (int i = 0; i < letters; i++) {
            Checks.write(town, body, "D " + own[i] + " 2 " + i);
            locals.get(own[i]).add(i);
        }
        int[][] changes = new int[2 + random.nextInt(10)][];
        Checks.write(town, body, "= 2 1");
        for (int i = 0; i < changes.length; i++) {
            changes[i] = new int[] {random.nextInt(3), own[random.nextInt(4)], own[random.nextInt(4)], own[random.nextInt(4)]};
            Checks.write(town, body, (changes[i][0] == 0 ? "M " : "P ") + changes[i][1] + " " + changes[i][2] + " " + changes[i][3]);
        }
        int rounds = rounds(locals, changes, 1 + random.nextInt(30));
        int asked = own[random.nextInt(4)];
        int first = letters + 2;
        int behind = first + changes.length;
        Checks.write(town, body, "- 1 1 2", "z 1 " + (behind + 3), "j 0 " + first, "N 2 2", "I 1 " + asked + " 2", "r 1");
        town.run(body, rounds);
        int steps = first + rounds * (changes.length + 3) - 1 + 1;
        Checks.same("15 random rounds " + seed, Checks.tells(town), due(locals.get(asked), steps));
    }

    /** Rows that are made of a few words and much like one another. */
    private static void randomWords(int seed) {
        Random random = new Random(seed);
        int[] words = {3, 4, 0, 2};
        Reifytown town = town();
        int body = body(town, "N 2 2", "D 3 2 0", "D 4 2 1", ": 2 0", ": 1 0");
        List<List<Integer>> locals = new ArrayList<>();
        for (int i = 0; i < 6; i++) {
            locals.add(new ArrayList<>());
        }
        locals.get(3).add(0);
        locals.get(4).add(1);
        int[][] changes = new int[17][];
        for (int i = 0; i < changes.length; i++) {
            int made = new int[] {0, 2, 5, 5, 1, 1}[random.nextInt(6)];
            int word = words[random.nextInt(4)];
            int other = made == 0 || made == 2 ? words[random.nextInt(4)] : made;
            boolean isFront = random.nextInt(2) == 0;
            changes[i] = new int[] {1, made, isFront ? word : other, isFront ? other : word};
        }
        changes[16] = new int[] {0, 5, 5, 1};
        for (int[] change : changes) {
            Checks.write(town, body, (change[0] == 0 ? "M " : "P ") + change[1] + " " + change[2] + " " + change[3]);
        }
        rounds(locals, changes, 1);
        Checks.write(town, body, "I 0 5 4", "r 0");
        town.run(body, 0);
        Checks.same("15 random words " + seed, Checks.tells(town), due(locals.get(5), 22));
    }

    /** Rows grow out of a few words; what they were earlier is taken out of what they are later. */
    private static void randomTakes(int seed) {
        Random random = new Random(seed);
        Reifytown town = town();
        List<List<Integer>> locals = new ArrayList<>();
        for (int i = 0; i < 6; i++) {
            locals.add(new ArrayList<>());
        }
        int words = town.addBody();
        town.addMethod(0, 5, 'v', words);
        for (int i = 3; i < 6; i++) {
            int name = random.nextInt(i - 2);
            Checks.write(town, words, "D " + i + " 0 " + name);
            locals.get(i).add(name);
        }
        int body = body(town, "N 2 2", "C 1 2 5 1", ". 3 2 0", ". 4 2 1", ". 5 2 2");
        int steps = 3 + grow(town, words, locals, random, 2 + random.nextInt(16), 50) + 3 + 5;
        Checks.write(town, words, "! 3 0 0", "! 4 0 1", "! 5 0 2");
        List<List<Integer>> kept = new ArrayList<>();
        for (int part = 0; part < 3; part++) {
            steps += grow(town, body, locals, random, 1 + random.nextInt(3), 400);
            if (part < 2) {
                int held = 3 + random.nextInt(3);
                Checks.write(town, body, "! " + held + " 2 " + part);
                kept.add(locals.get(held));
                steps++;
            }
        }
        int front = 3 + random.nextInt(3);
        int end = 3 + random.nextInt(3);
        Checks.write(town, body, "P 1 " + front + " " + end);
        rounds(locals, new int[][] {{1, 1, front, end}}, 1);
        for (int part = 1; part >= 0; part--) {
            Checks.write(town, body, ". 0 2 " + part, "M 1 1 0");
            locals.set(0, kept.get(part));
            rounds(locals, new int[][] {{0, 1, 1, 0}}, 1);
        }
        Checks.write(town, body, "I 0 1 2", "r 0");
        town.run(body, 0);
        Checks.same("15 random takes " + seed, Checks.tells(town), due(locals.get(1), steps + 5));
    }

    /** A row is made of longer and longer ones, and what is taken out of it of one target after the other. */
    private static void randomSpelling(int seed) {
        Random random = new Random(seed);
        int[] own = {0, 5, 3, 4};
        Reifytown town = town();
        int body = body(town, "N 2 2", "D 3 2 0", "D 4 2 1");
        List<List<Integer>> locals = new ArrayList<>();
        for (int i = 0; i < 6; i++) {
            locals.add(new ArrayList<>(i == 3 || i == 4 ? List.of(i - 3) : List.of()));
        }
        for (int i = 0; i < 9; i++) {
            int[] change = {1, i == 8 ? 5 : own[random.nextInt(2)], own[random.nextInt(4)], own[random.nextInt(4)]};
            Checks.write(town, body, "P " + change[1] + " " + change[2] + " " + change[3]);
            rounds(locals, new int[][] {change}, 1);
        }
        List<Integer> row = locals.get(5);
        if (row.isEmpty()) {
            return;
        }
        int count = Math.min(row.size(), 1 + random.nextInt(8));
        int first = random.nextInt(row.size() - count + 1);
        for (int target : row.subList(first, first + count)) {
            Checks.write(town, body, (locals.get(1).isEmpty() ? ": 1 " : "P 1 1 ") + (target + 3));
            locals.get(1).add(target);
        }
        Checks.write(town, body, "M 5 5 1", "I 0 5 2", "r 0");
        rounds(locals, new int[][] {{0, 5, 5, 1}}, 1);
        town.run(body, 0);
        Checks.same("15 random spelling " + seed, Checks.tells(town), due(locals.get(5), 12 + count + 1));
    }

    /** The locals 3 to 5 become longer, at most so often, and no longer than this; tells how often. */
    private static int grow(Reifytown town, int body, List<List<Integer>> locals, Random random, int most, int longest) {
        int steps = 0;
        for (int i = 0; i < most; i++) {
            int a = 3 + random.nextInt(3);
            int b = 3 + random.nextInt(3);
            int[] change = random.nextBoolean() ? new int[] {1, a, a, b} : new int[] {1, a, b, a};
            if (locals.get(a).size() + locals.get(b).size() <= longest) {
                Checks.write(town, body, "P " + change[1] + " " + change[2] + " " + change[3]);
                rounds(locals, new int[][] {change}, 1);
                steps++;
            }
        }
        return steps;
    }

    /** Carries changes out on plain lists, at least once and until one is long, and tells how often. */
    private static int rounds(List<List<Integer>> locals, int[][] changes, int most) {
        int longest = 0;
        for (int round = 0; round < most; round++) {
            for (int[] change : changes) {
                List<Integer> made = new ArrayList<>(locals.get(change[2]));
                if (change[0] == 0) {
                    takeOut(made, locals.get(change[3]));
                } else {
                    made.addAll(locals.get(change[3]));
                }
                locals.set(change[1], made);
                longest = Math.max(longest, made.size());
            }
            if (longest > 1500) {
                return round + 1;
            }
        }
        return most;
    }

    private static void takeOut(List<Integer> row, List<Integer> less) {
        if (less.isEmpty()) {
            return;
        }
        int at = java.util.Collections.lastIndexOfSubList(row, less);
        if (at >= 0) {
            row.subList(at, at + less.size()).clear();
        }
    }

    private static String due(List<Integer> row, int steps) {
        if (row.isEmpty()) {
            return "u1";
        }
        int left = 1000 - steps - 1;
        StringBuilder text = new StringBuilder(2 * row.size() + 1 <= left ? "r0" : "l");
        int outputs = Math.min(row.size(), left / 2);
        for (int i = 0; i < Math.min(Checks.MOST_TOLD, outputs); i++) {
            text.append(' ').append(row.get(i) + 1);
        }
        return text.append(outputs > Checks.MOST_TOLD ? " of " + outputs : "").toString();
    }
}
