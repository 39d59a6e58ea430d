import java.util.ArrayList;
import java.util.List;

/** The bounds of promises 15 to 31: calls within one another, steps, regions, statics, and what a run tells. */
public final class RunBoundsTest {
    private static final int LEAST = Integer.MIN_VALUE;
    private static final int MOST = Integer.MAX_VALUE;

    public static void main(String[] args) {
        promise15Numbers();
        twelveCalls();
        twelveIterators();
        twelveWithFilters();
        twelveWithStatics();
        thousandSteps();
        thousandStepsElsewhere();
        mostOutputs();
        handlersBounds();
        filtersBounds();
        finalsBounds();
        jumpsBounds();
        endsBounds();
        ofIterators();
        fourRegions();
        askedOnce();
        frames();
        orderOfRegions();
        underWay();
        filtersSee();
        staticsFirst();
        staticsSpoilt();
        answersOfEnds();
        answersStay();
        promise21Places();
        promise22Numbers();
        countsOfOne();
        countsOfAll();
        promise31Stays();
        calls512();
        Checks.close("RunBoundsTest");
    }

    /** A run, and one with code that is written out, and both as isSame sees them. */
    private static void runs(String what, Reifytown town, int body, int argument, String due) {
        Checks.runs(what, town, body, argument, due);
        town.runWritten(body, argument);
        Checks.same(what + ", written out", Checks.tells(town), due);
        Checks.same(what + ", in both ways", town.isSame(body, argument), true);
    }

    private static void promise15Numbers() {
        int[] bodies = {LEAST, -2, -1, 5, 6, 13, 14, MOST};
        for (int n : bodies) {
            Twins.index("15 body " + n, Towns::rich, t -> (Object) t.run(n, 0));
            Twins.index("16 body " + n, Towns::rich, t -> (Object) t.runWritten(n, 0));
            Twins.index("31 body " + n, Towns::rich, t -> (Object) t.isSame(n, 0));
        }
        Twins.index("15 the fifteenth body", Towns::fullOfBodies, t -> (Object) t.run(14, 0));
        Twins.index("16 the fifteenth body", Towns::fullOfBodies, t -> (Object) t.runWritten(14, 0));
        Twins.index("31 the fifteenth body", Towns::fullOfBodies, t -> (Object) t.isSame(14, 0));
        Checks.same("15 the fourteenth", Towns.fullOfBodies().run(13, 0), 'r');
        Checks.same("16 the fourteenth", Towns.fullOfBodies().runWritten(13, 0), 'r');
        Checks.same("31 the fourteenth", Towns.fullOfBodies().isSame(13, 0), true);
        Checks.same("15 the first", Towns.rich().run(0, MOST), 'r');
        Checks.same("16 the first", Towns.rich().runWritten(0, LEAST), 'r');
    }

    /**
     * The method 0 of an object calls itself as often as its argument tells, and then does these steps, which begin at
     * place 5: with the argument 9, what they call is the twelfth call.
     */
    private static Reifytown deep(String... steps) {
        Reifytown town = Towns.of("c", "c", "c");
        town.type(0, -1);
        town.type(1, -1);
        town.type(2, -1);
        int down = Checks.body(town, "z 1 5", "= 2 1", "- 1 1 2", "C 3 0 0 1", "r 3");
        Checks.write(town, down, steps);
        town.addMethod(0, 0, 'v', down);
        town.addMethod(0, 1, 'v', Checks.body(town, "= 2 5", "y 2", "r 2"));
        town.addMethod(0, 2, 'v', Checks.body(town, "= 2 5", "r 2"));
        town.addMethod(0, 3, 'v', town.addBody());
        Checks.body(town, "N 0 2", "G 3 0 1 1", "! 3 0 0", "C 3 0 0 1", "r 3");
        return town;
    }

    private static final int START = 4;

    /** What is due in the twelfth call and in the thirteenth one. */
    private static void twelve(String what, String twelfth, String thirteenth, String... steps) {
        Reifytown town = deep(steps);
        runs(what + ", the eleventh", town, START, 8, twelfth);
        runs(what + ", the twelfth", town, START, 9, twelfth);
        runs(what + ", the thirteenth", town, START, 10, thirteenth);
    }

    private static void twelveCalls() {
        twelve("calls", "rn5", "u6", "C 3 0 2 1", "r 3");
        twelve("calls of an empty body", "r0", "u6", "C 3 0 3 1", "r 3");
        twelve("targets", "rn5", "u6", "D 3 0 2", "I 4 3 1", "r 4");
        twelve("targets of an empty body", "r0", "u6", "D 3 0 3", "I 4 3 1", "r 4");
        twelve("many targets of an empty body", "r0", "u6", "D 3 0 3", "P 3 3 3", "P 3 3 3", "I 4 3 1", "r 4");
        twelve("targets one by one", "rn5", "u6", "D 3 0 2", "D 4 0 3", "P 3 4 3", "I 4 3 1", "r 4");
        twelve("a delegate that is not called", "rd", "rd", "D 3 0 2", "P 3 3 3", "M 4 3 5", "r 4");
        twelve("an iterator that is made", "ri", "ri", "G 3 0 2 1", "r 3");
        twelve("null ahead of too many calls", "u1", "u1", "C 3 4 2 1");
        Reifytown town = deep("p 0");
        town.run(START, 10);
        Checks.same("25 eleven calls and the run", town.calls(), 11);
        Checks.same("24 one piece, and the iterator's", town.pieces(), 2);
        Checks.same("19 a null is no number", town.unhandled(), 3);
        Reifytown full = deep("C 3 0 2 1", "r 3");
        full.run(START, 10);
        Checks.same("25 the thirteenth is no call", full.calls(), 11);
        Checks.same("24 nor a piece", full.pieces(), 2);
        Reifytown handled = deep("C 3 0 2 1", "r 3", "r 5");
        handled.addRegion(0, 5, 5, 'c', 6, 7);
        runs("handled where it is thrown", handled, START, 10, "rn6");
        Checks.same("25 eleven calls", handled.calls(), 11);
    }

    private static void twelveIterators() {
        twelve("E", "rn1", "u6", "G 3 0 1 1", "E 4 3 5", "r 4");
        twelve("E of an empty body", "rn0", "u6", "G 3 0 3 1", "E 4 3 5", "r 4");
        twelve("E of one that was over", "rn0", "rn0", "G 3 0 1 1", "Q 3", "E 4 3 5", "r 4");
        twelve("Q of one that has not begun", "rn7", "rn7", "G 3 0 1 1", "Q 3", "= 4 7", "r 4");
        Reifytown town = Towns.of("c");
        town.type(0, -1);
        int within = Checks.body(town, "z 1 6", "= 2 1", "- 1 1 2", "G 3 0 0 1", "E 4 3 5", "y 5", "y 1");
        town.addMethod(0, 0, 'v', within);
        int start = Checks.body(town, "N 2 2", "G 3 2 0 1", "E 4 3 5", "p 4", "r 5");
        runs("eleven iterators within one another", town, start, 9, "rn0 1");
        runs("twelve with the run", town, start, 10, "rn0 1");
        runs("thirteen", town, start, 11, "u6");
        Checks.same("25 no calls at all", town.calls(), 0);
        for (int isWatched = 0; isWatched < 2; isWatched++) {
            Reifytown ended = Towns.of("c");
            ended.type(0, -1);
            int gives = Checks.body(ended, "y 1", "e", "e");
            ended.addRegion(gives, isWatched == 1 ? 0 : 1, 1, 'f', 0, 2);
            int down = Checks.body(ended, "z 1 5", "= 2 1", "- 1 1 2", "C 3 0 0 1", "r 3", ". 3 0 0", "Q 3", "= 4 7", "r 4");
            ended.addMethod(0, 0, 'v', down);
            ended.addMethod(0, 1, 'v', gives);
            int main = Checks.body(ended, "N 0 2", "G 3 0 1 1", "E 4 3 5", "! 3 0 0", "C 3 0 0 1", "r 3");
            runs("Q as the twelfth call " + isWatched, ended, main, 9, "rn7");
            Checks.same("27 at last " + isWatched, finalsOf(ended, main, 9), isWatched);
            runs("Q as the thirteenth call " + isWatched, ended, main, 10, isWatched == 1 ? "u6" : "rn7");
            Checks.same("27 nothing more " + isWatched, finalsOf(ended, main, 10), 0);
        }
    }

    private static int finalsOf(Reifytown town, int body, int argument) {
        town.run(body, argument);
        return town.finals();
    }

    private static void twelveWithFilters() {
        for (int calls = 8; calls <= 10; calls++) {
            Reifytown town = deep("x 0", "r 5");
            int filter = Checks.body(town, "p 1", "r 1");
            town.addRegion(0, 5, 5, 'w', filter, 6);
            runs("filter in call " + (3 + calls), town, START, calls, calls < 10 ? "rn3 3" : "u3");
            Checks.same("25 filters that are called", callsOf(town, START, calls), calls + 1 + (calls < 10 ? 1 : 0));
            Reifytown two = deep("x 0", "r 5", "p 5", "r 5");
            two.addRegion(0, 5, 5, 'w', Checks.body(two, "p 1", "r 1"), 6);
            two.addRegion(0, 5, 5, 'c', 3, 7);
            runs("another handler behind it", two, START, calls, "rn3 3");
        }
        Reifytown within = Towns.of("c");
        within.type(0, -1);
        int down = Checks.body(within, "z 1 5", "= 2 1", "- 1 1 2", "C 3 0 0 1", "r 3", "= 3 1", "r 3");
        within.addMethod(0, 0, 'v', down);
        int filter = Checks.body(within, "C 3 0 0 1", "r 3");
        int start = Checks.body(within, "N 0 2", "x 1", "r 5");
        within.addRegion(start, 1, 1, 'w', filter, 2);
        runs("what a filter calls, twelve", within, start, 9, "rn9");
        runs("what a filter calls, thirteen", within, start, 10, "u10");
    }

    private static int callsOf(Reifytown town, int body, int argument) {
        town.run(body, argument);
        return town.calls();
    }

    private static void twelveWithStatics() {
        for (int isReady = 0; isReady < 2; isReady++) {
            Reifytown town = deep("S 3 3 0", "r 3");
            if (isReady == 1) {
                town.setReady(1, Checks.body(town, "= 2 5", "s 2 3 0"));
            }
            runs("a static in the twelfth call", town, START, 9, isReady == 1 ? "rn5" : "rn0");
            runs("a static in the thirteenth call", town, START, 10, isReady == 1 ? "u6" : "rn0");
            Checks.same("25 with what makes ready", callsOf(town, START, 9), 10 + isReady);
            Checks.same("25 without", callsOf(town, START, 10), 11);
        }
        Reifytown used = deep("s 2 3 1", "S 3 3 0", "r 3");
        used.setReady(1, Checks.body(used, "= 2 5", "s 2 3 0"));
        int first = Checks.body(used, "S 3 3 0", "N 0 2", "C 3 0 0 1", "r 3");
        runs("made ready before", used, first, 10, "rn5");
        runs("made ready before, without room", used, START, 10, "u6");
        Reifytown makes = deep("= 4 1", "r 4");
        makes.setReady(1, Checks.body(makes, "N 2 2", "= 3 9", "C 4 2 0 3", "s 4 3 0"));
        makes.setReady(2, Checks.body(makes, "N 2 2", "= 3 10", "C 4 2 0 3", "s 4 4 0"));
        runs("what makes ready calls, twelve", makes, Checks.body(makes, "S 3 3 0", "r 3"), 0, "rn1");
        runs("what makes ready calls, thirteen", makes, Checks.body(makes, "S 3 4 0", "r 3"), 0, "u6");
    }

    /** The first six steps, which make 999 steps with the argument 333, and 3 less with 1 less. */
    private static int after999(Reifytown town, String... steps) {
        int body = Checks.body(town, "= 2 1", "- 1 1 2", "z 1 4", "j 0 1");
        Checks.write(town, body, steps);
        return body;
    }

    private static Reifytown counting() {
        Reifytown town = Towns.of("c", "c", "c");
        town.type(0, -1);
        town.type(1, -1);
        town.addMethod(0, 0, 'v', town.addBody());
        town.addMethod(0, 1, 'v', Checks.body(town, "e"));
        town.setReady(1, Checks.body(town, "e"));
        return town;
    }

    /** The steps behind the first 999: the first as the thousandth is as due, and one more is too many. */
    private static void thousandSteps() {
        Object[][] due = {
            {"r0", 999}, {"rn0", 1000, "r 1"}, {"u0", 1000, "x 1"}, {"r0", 1000, "e"}, {"l", 1000, "e", "r 1"},
            {"l", 1000, "e", "x 1"}, {"r0 0", 1000, "p 1"}, {"l 0", 1000, "p 1", "p 1"}, {"r0", 1000, "j 0 24"},
            {"l", 1000, "j 0 5", "e"}, {"l", 1000, "j 0 4"}, {"u1", 1000, ". 2 5 0"}, {"u3", 1000, "p 5"}, {"u5", 1000, "y 1"},
        };
        for (Object[] d : due) {
            Reifytown town = counting();
            int body = after999(town);
            for (int i = 2; i < d.length; i++) {
                Checks.write(town, body, (String) d[i]);
            }
            runs("a thousand steps and " + (d.length - 2), town, body, 333, (String) d[0]);
            Checks.same("23 steps of " + d[0], town.steps(), d[1]);
            Checks.same("15 its end", town.run(body, 333), ((String) d[0]).charAt(0));
            Checks.same("15 fewer are well", town.run(body, 332) == 'l', d.length > 2 && d[2].equals("j 0 4"));
        }
        Reifytown round = counting();
        runs("one step over and over", round, Checks.body(round, "j 0 0"), 0, "l");
        Checks.same("23 a thousand", round.steps(), 1000);
        Checks.same("28 all of them", round.allSteps(), 2000L);
        Checks.missing("17 nothing returned", () -> round.returned());
        Checks.missing("18 no number", () -> round.number());
        Checks.missing("19 nothing unhandled", () -> round.unhandled());
    }

    /** The thousandth and the next step in what is called, handled, done at last, asked, given or made ready. */
    private static void thousandStepsElsewhere() {
        Object[][] due = {
            {"r0", "C 3 0 0 1"}, {"l", "C 3 0 1 1"}, {"r0", "E 4 3 5"}, {"l", "E 4 5 3"}, {"r0", "I 4 3 1"}, {"l", "I 4 5 1"},
        };
        for (Object[] d : due) {
            Reifytown town = counting();
            char op = ((String) d[1]).charAt(0);
            String make = op == 'C' ? "e" : op == 'E' ? "G 3 0 0 1" : "D 3 0 0";
            String other = op == 'C' ? "e" : op == 'E' ? "G 5 0 1 1" : "D 5 0 1";
            int body = Checks.body(town, "N 0 2", make, other, "= 2 1", "- 1 1 2", "z 1 7", "j 0 4", (String) d[1]);
            runs("called as the thousandth " + d[1], town, body, 332, (String) d[0]);
            Checks.same("23 of " + d[1], town.steps(), 1000);
        }
        Reifytown ready = counting();
        int use = after999(ready, "S 3 3 0");
        runs("made ready as the next one", ready, use, 333, "l");
        ready.setReady(1, 0);
        runs("made ready without steps", ready, use, 333, "r0");
        for (char region : new char[] {'c', 'w', 'f'}) {
            for (int more = 0; more < 2; more++) {
                Reifytown town = counting();
                int filter = Checks.body(town, "r 1");
                int body = after999(town, region == 'f' ? "r 1" : "x 1", "e");
                town.addRegion(body, 4, 4, region, region == 'w' ? filter : -1, more == 1 ? 5 : 23);
                String end = region == 'w' || more == 1 ? "l" : "r0";
                runs("handled or done at last, " + region + more, town, body, 333, end);
                Checks.same("23 of " + region + more, town.steps(), 1000);
            }
        }
        Reifytown asked = counting();
        int none = after999(asked, "x 1", "e");
        asked.addRegion(none, 4, 4, 'w', 0, 5);
        runs("asked without steps", asked, none, 333, "u0");
        Reifytown end = counting();
        int watched = after999(end);
        end.addRegion(watched, 4, 4, 'f', 0, 23);
        runs("the end as the thousandth step", end, watched, 333, "r0");
        Checks.same("23 it counts", end.steps(), 1000);
        Checks.same("27 at last", end.finals(), 1);
        int later = after999(end, "e");
        end.addRegion(later, 5, 5, 'f', 0, 23);
        runs("the end as the next one", end, later, 333, "l");
        Checks.same("27 not at last", end.finals(), 0);
    }

    private static void mostOutputs() {
        Reifytown town = new Reifytown();
        int body = town.addBody();
        for (int i = 0; i < 23; i++) {
            town.addStep(body, 'p', 1, 0, 0, 0);
        }
        town.addStep(body, 'j', 0, 0, 0, 0);
        Checks.same("20 most outputs", town.run(body, MOST), 'l');
        Checks.same("20 all but the jumps", town.outputs(), 1000 - 41);
        Checks.same("21 the first", town.output(0), MOST);
        Checks.same("21 the last", town.output(958), MOST);
        Checks.index("21 the next one", () -> town.output(959));
        Checks.same("23 a thousand", town.steps(), 1000);
    }

    /** Eight steps, one of which is another one than 'e', behind them "r 5". */
    private static int oneOf(Reifytown town, int at, String step) {
        int body = town.addBody();
        for (int i = 0; i < 8; i++) {
            Checks.write(town, body, i == at ? step : "e");
        }
        Checks.write(town, body, "r 5");
        return body;
    }

    private static void handlersBounds() {
        for (int first = 0; first < 8; first++) {
            for (int last = first; last < 8; last++) {
                for (int at = 0; at < 8; at++) {
                    Reifytown town = new Reifytown();
                    int body = oneOf(town, at, "x 1");
                    town.addRegion(body, first, last, 'c', 4, 8);
                    String what = "handler from " + first + " to " + last + ", thrown at " + at;
                    boolean isIn = at >= first && at <= last;
                    Checks.runs(what, town, body, 4, isIn ? "rn4" : "u4");
                    Checks.runs(what + ", one more", town, body, 5, "u5");
                    Checks.runs(what + ", one less", town, body, 3, "u3");
                }
            }
        }
        Reifytown whole = new Reifytown();
        int full = whole.addBody();
        for (int i = 0; i < 24; i++) {
            Checks.write(whole, full, i == 0 ? "z 1 23" : i == 1 ? "r 5" : i == 23 ? "x 1" : "e");
        }
        whole.addRegion(full, 2, 23, 'c', -1, 1);
        runs("the last of 24 steps", whole, full, 0, "rn0");
        Reifytown first = new Reifytown();
        int two = first.addBody();
        Checks.write(first, two, "x 1");
        first.addRegion(two, 0, 22, 'c', -1, 23);
        runs("the greatest region and place", first, two, 7, "r0");
        Checks.same("23 nothing there", first.steps(), 1);
    }

    private static void filtersBounds() {
        for (int at = 0; at < 8; at++) {
            Reifytown town = new Reifytown();
            int filter = Checks.body(town, "p 1", "= 2 4", "? 3 1 2", "r 3");
            int body = oneOf(town, at, "x 1");
            town.addRegion(body, 2, 5, 'w', filter, 8);
            boolean isIn = at >= 2 && at <= 5;
            runs("filter, thrown at " + at, town, body, 4, isIn ? "rn4 4" : "u4");
            runs("filter, another one thrown at " + at, town, body, 5, isIn ? "u5 5" : "u5");
        }
    }

    /** A return from each step: done at last just from the first to the last step of the region. */
    private static void finalsBounds() {
        for (int first = 0; first < 8; first++) {
            for (int last = first; last < 8; last++) {
                for (int at = 0; at < 8; at++) {
                    Reifytown town = new Reifytown();
                    int returning = oneOf(town, at, "r 1");
                    int throwing = oneOf(town, at, "x 1");
                    town.addRegion(returning, first, last, 'f', 0, 9);
                    Checks.write(town, returning, "p 1", "e");
                    town.addRegion(throwing, first, last, 'f', 0, 9);
                    town.addRegion(throwing, 0, 7, 'c', -1, 8);
                    Checks.write(town, throwing, "p 1", "e");
                    boolean isIn = at >= first && at <= last;
                    String what = "at last from " + first + " to " + last + ", left from " + at;
                    Checks.runs(what, town, returning, 4, isIn ? "rn4 4" : "rn4");
                    Checks.same("27 " + what, town.finals(), isIn ? 1 : 0);
                    Checks.runs(what + ", thrown", town, throwing, 4, isIn ? "rn4 4" : "rn4");
                    Checks.same("27 " + what + ", thrown", town.finals(), isIn ? 1 : 0);
                }
            }
        }
    }

    /** A jump from each step to each place: the region from 2 to 5 is left from within to outside alone. */
    private static void jumpsBounds() {
        for (int at = 0; at < 8; at++) {
            for (int place = at + 1; place <= 24; place++) {
                boolean isLeft = at >= 2 && at <= 5 && place > 5;
                for (String jump : new String[] {"j 0 ", "z 5 "}) {
                    Reifytown town = new Reifytown();
                    int body = oneOf(town, at, jump + place);
                    Checks.write(town, body, "e");
                    town.addRegion(body, 2, 5, 'f', 0, 9);
                    String what = jump + place + " from " + at;
                    runs(what, town, body, 4, "r0");
                    Checks.same("27 " + what, town.finals(), isLeft ? 1 : 0);
                }
                Reifytown stays = new Reifytown();
                int none = oneOf(stays, at, "z 1 " + place);
                stays.addRegion(none, 2, 5, 'f', 0, 9);
                runs("no jump from " + at, stays, none, 4, "r0");
                Checks.same("27 no jump from " + at, stays.finals(), 0);
            }
        }
        for (int at = 2; at < 8; at++) {
            for (int place = 1; place < at; place++) {
                Reifytown town = new Reifytown();
                int body = town.addBody();
                for (int i = 0; i < 8; i++) {
                    Checks.write(town, body, i == 0 ? "j 0 " + at : i == at ? "z 4 " + place : "= 4 1");
                }
                Checks.write(town, body, "r 1", "e");
                town.addRegion(body, 2, 5, 'f', 0, 9);
                runs("back from " + at + " to " + place, town, body, 4, "rn4");
                Checks.same("27 back from " + at + " to " + place, town.finals(), at <= 5 && place < 2 ? 1 : 0);
            }
        }
        Reifytown itself = new Reifytown();
        int round = Checks.body(itself, "j 0 0");
        itself.addRegion(round, 0, 0, 'f', 0, 1);
        runs("to itself", itself, round, 4, "l");
        Checks.same("27 never left", itself.finals(), 0);
    }

    /** The end of a body of three steps counts for the regions that have its place, and for the run then too. */
    private static void endsBounds() {
        for (int first = 0; first < 7; first++) {
            for (int last = first; last < 7; last++) {
                for (char letter : new char[] {'f', 'c', 'w'}) {
                    Reifytown town = new Reifytown();
                    int body = Checks.body(town, "e", "e", "e");
                    town.addRegion(body, first, last, letter, 0, 20);
                    boolean isIn = letter == 'f' && first <= 3 && last >= 3;
                    String what = "end in " + letter + " from " + first + " to " + last;
                    runs(what, town, body, 4, "r0");
                    Checks.same("23 " + what, town.steps(), isIn ? 4 : 3);
                    Checks.same("27 " + what, town.finals(), isIn ? 1 : 0);
                }
            }
        }
        for (int place = 3; place <= 24; place++) {
            Reifytown town = new Reifytown();
            int body = Checks.body(town, "j 0 " + place, "p 1", "e");
            town.addRegion(body, 3, 10, 'f', 0, 1);
            boolean isIn = place <= 10;
            runs("a jump to the end at " + place, town, body, 4, isIn ? "r0 4" : "r0");
            Checks.same("23 at " + place, town.steps(), isIn ? 4 : 1);
        }
        Reifytown most = new Reifytown();
        int full = most.addBody();
        for (int i = 0; i < 23; i++) {
            Checks.write(most, full, i == 0 ? "j 0 3" : "e");
        }
        most.addRegion(full, 23, 23, 'f', 0, 1);
        runs("the end at 23", most, full, 4, "r0");
        Checks.same("23 the end and what is done at last", most.steps(), 1 + 20 + 1 + 1);
        Checks.write(most, full, "e");
        runs("no end at 23", most, full, 4, "r0");
        Checks.same("23 one step in its place", most.steps(), 22);
        Checks.same("27 none", most.finals(), 0);
    }

    /** An iterator that stands still at each step is left from there. */
    private static void ofIterators() {
        for (int at = 0; at < 8; at++) {
            Reifytown town = Towns.of("c");
            town.type(0, -1);
            int gives = oneOf(town, at, "y 1");
            Checks.write(town, gives, "p 1", "e");
            town.addRegion(gives, 2, 5, 'f', 0, 9);
            town.addMethod(0, 0, 'v', gives);
            boolean isIn = at >= 2 && at <= 5;
            int ended = Checks.body(town, "N 2 2", "G 3 2 0 1", "E 4 3 5", "Q 3", "Q 3", "E 4 3 5", "r 4");
            runs("Q of one that gave at " + at, town, ended, 4, isIn ? "rn0 4" : "rn0");
            Checks.same("27 it gave at " + at, town.finals(), isIn ? 1 : 0);
            int gone = Checks.body(town, "N 2 2", "G 3 2 0 1", "E 4 3 5", "E 4 3 5", "Q 3", "r 4");
            runs("Q of one that went on from " + at, town, gone, 4, "rn0");
            Checks.same("27 none", town.finals(), 0);
            int not = Checks.body(town, "N 2 2", "G 3 2 0 1", "Q 3", "r 4");
            runs("Q of one that has not begun " + at, town, not, 4, "r0");
            Checks.same("27 none of it", town.finals(), 0);
        }
    }

    /** Four regions: the last one is as good as the first. */
    private static void fourRegions() {
        for (int at = 0; at < 4; at++) {
            Reifytown town = new Reifytown();
            int body = Checks.body(town, "x 1", "= 2 0", "r 2", "= 2 1", "r 2", "= 2 2", "r 2", "= 2 3", "r 2");
            for (int i = 0; i < 4; i++) {
                town.addRegion(body, 0, 0, 'c', i >= at ? 9 : 8, 1 + 2 * i);
            }
            runs("the first that handles it is " + at, town, body, 9, "rn" + at);
        }
        for (char letter : new char[] {'c', 'w', 'f'}) {
            Reifytown town = Towns.of("c");
            town.type(0, -1);
            int body = Checks.body(town, "y 1", "e");
            for (int i = 0; i < 4; i++) {
                town.addRegion(body, letter == 'f' ? 1 : 0, letter == 'f' ? 1 : 2, letter, 0, 9);
            }
            town.addMethod(0, 0, 'v', body);
            runs("four that have nothing to do at last " + letter, town, Checks.body(town, "N 2 2", "G 3 2 0 1", "E 4 3 5", "Q 3",
                "G 3 2 0 1", "E 4 3 5", "E 4 3 5", "r 4"), 7, "rn0");
            Checks.same("27 none by " + letter, town.finals(), 0);
            Checks.same("23 nor a step by " + letter, town.steps(), 11);
        }
        for (int count = 0; count <= 4; count++) {
            Reifytown town = new Reifytown();
            int body = Checks.body(town, "r 1", "= 2 0", "p 2", "e", "= 2 1", "p 2", "e", "= 2 2", "p 2", "e", "= 2 3", "p 2", "e");
            StringBuilder due = new StringBuilder("rn7");
            for (int i = 0; i < count; i++) {
                town.addRegion(body, 0, 0, 'f', 0, 1 + 3 * i);
                due.append(' ').append(i);
            }
            runs("done at last " + count, town, body, 7, due.toString());
            Checks.same("27 " + count, town.finals(), count);
        }
    }

    /** A filter is asked once for what is thrown through iterators, and out of what makes statics ready. */
    private static void askedOnce() {
        for (int answer = 0; answer < 2; answer++) {
            Reifytown town = Towns.of("c");
            town.type(0, -1);
            int filter = Checks.body(town, "p 1", "= 2 " + answer, "r 2");
            int within = Checks.body(town, "x 1");
            int around = Checks.body(town, "G 3 0 0 1", "E 4 3 5", "r 1");
            town.addMethod(0, 0, 'v', within);
            town.addMethod(0, 1, 'v', around);
            int body = Checks.body(town, "N 2 2", "G 3 2 1 1", "E 4 3 5", "r 5");
            town.addRegion(body, 2, 2, 'w', filter, 3);
            runs("through two iterators " + answer, town, body, 6, answer == 1 ? "rn6 6" : "u6 6");
            Checks.same("25 one filter", town.calls(), 1);
            int ready = Checks.body(town, "N 2 2", "= 1 4", "G 3 2 1 1", "E 4 3 5", "r 5");
            town.addRegion(ready, 3, 3, 'w', filter, 4);
            town.setReady(0, ready);
            runs("in what makes ready " + answer, town, Checks.body(town, "S 2 2 0"), 6, answer == 1 ? "r0 4" : "u4 4");
            Checks.same("25 it and one filter", town.calls(), 2);
            int last = Checks.body(town, "y 1", "e", "x 1");
            town.addRegion(last, 0, 0, 'f', 0, 2);
            town.addMethod(0, 2, 'v', last);
            int ended = Checks.body(town, "N 2 2", "G 3 2 2 1", "E 4 3 5", "Q 3", "r 5");
            town.addRegion(ended, 3, 3, 'w', filter, 4);
            runs("through what Q does at last " + answer, town, ended, 6, answer == 1 ? "rn6 6" : "u6 6");
            Checks.same("25 one filter for Q", town.calls(), 1);
        }
    }

    /** What a run left under way, when it ended, is not there in the next one. */
    private static void frames() {
        Reifytown town = Towns.of("c", "s");
        town.type(0, -1);
        town.type(1, -1);
        int stays = Checks.body(town, "r 1", "e", "y 1", "e");
        town.addRegion(stays, 0, 0, 'f', 0, 2);
        int plain = Checks.body(town, "e", "y 1", "e", "= 2 9", "p 2", "r 2");
        int round = Checks.body(town, "r 1", "j 0 1");
        town.addRegion(round, 0, 0, 'f', 0, 1);
        int own = Checks.body(town, ". 2 0 0", "e", "p 2", "r 0");
        town.addMethod(0, 0, 'v', stays);
        town.addMethod(0, 1, 'v', plain);
        town.addMethod(0, 2, 'v', round);
        town.addMethod(0, 3, 'v', own);
        town.addMethod(1, 0, 'v', own);
        int leaves = Checks.body(town, "N 2 2", "G 3 2 0 1", "E 4 3 5");
        int next = Checks.body(town, "N 2 2", "G 3 2 1 1", "E 4 3 5", "p 5", "E 4 3 5", "r 4");
        int endless = Checks.body(town, "N 2 2", "C 3 2 2 1");
        int calls = Checks.body(town, "N 2 2", "C 3 2 3 1", "r 3");
        int boxed = Checks.body(town, "N 2 3", "B 2 2", "= 3 6", "C 3 2 10 1", "N 2 2", "C 3 2 3 1", "? 4 2 3", "r 4");
        for (int i = 0; i < 3; i++) {
            runs("an iterator that stands still at last", town, leaves, 6, "r0");
            runs("another one in the next run", town, next, 5, "rn0 5 9");
            Checks.same("27 none of the run before", town.finals(), 0);
            runs("what is done at last without end", town, endless, 6, "l");
            runs("a call in the next run", town, calls, 5, "ro 0");
            runs("an object after a box", town, boxed, 5, "rn1 0 0");
        }
    }

    /** The order ends at the handler's region, wherever it stands among four. */
    private static void orderOfRegions() {
        for (int handler = 0; handler < 4; handler++) {
            for (char letter : new char[] {'c', 'w'}) {
                Reifytown town = new Reifytown();
                int filter = Checks.body(town, "r 1");
                int body = Checks.body(town, "x 1", "= 2 0", "p 2", "e", "= 2 1", "p 2", "e", "= 2 2", "p 2", "e", "= 2 3",
                    "p 2", "e", "r 5");
                StringBuilder due = new StringBuilder("rn7");
                for (int i = 0; i < 4; i++) {
                    boolean isHandler = i == handler;
                    int number = letter == 'w' ? filter : -1;
                    town.addRegion(body, 0, 0, isHandler ? letter : 'f', isHandler ? number : 0, isHandler ? 13 : 1 + 3 * i);
                    if (i < handler) {
                        due.append(' ').append(i);
                    }
                }
                runs("order to the handler " + handler + letter, town, body, 7, due.toString());
                Checks.same("27 ahead of the handler " + handler, town.finals(), handler);
            }
        }
        Reifytown two = Towns.of("c");
        two.type(0, -1);
        int inner = Checks.body(two, "x 1", "e", "= 2 1", "p 2", "e", "= 2 2", "p 2", "e", "r 2");
        two.addRegion(inner, 0, 0, 'f', 0, 2);
        two.addRegion(inner, 0, 1, 'c', 8, 8);
        two.addRegion(inner, 0, 1, 'f', 0, 5);
        two.addMethod(0, 0, 'v', inner);
        int outer = Checks.body(two, "N 2 2", "C 3 2 0 1", "r 3", "p 5", "r 5", "= 4 3", "p 4", "e");
        two.addRegion(outer, 1, 1, 'f', 0, 5);
        two.addRegion(outer, 0, 2, 'c', -1, 3);
        runs("all of a call that is left", two, outer, 9, "rn9 1 2 3 9");
        Checks.same("27 three", two.finals(), 3);
        runs("up to the handler in the call itself", two, outer, 8, "rn1 1");
        Checks.same("27 one", two.finals(), 1);
    }

    /** What takes the place of what was under way, and what does not. */
    private static void underWay() {
        Object[][] due = {
            {"rn9", "r 1", "e", "= 2 9", "r 2"}, {"u9", "r 1", "e", "= 2 9", "x 2"}, {"r0", "r 1", "e"},
            {"r0 4", "r 1", "e", "p 1"}, {"rn4 4", "r 1", "e", "p 1", "e"}, {"rn4 4", "r 1", "e", "p 1", "j 0 4", "e"},
            {"rn4 4", "r 1", "e", "p 1", "j 0 1"}, {"r0 4", "r 1", "e", "p 1", "j 0 24"}, {"r0 4", "r 1", "e", "p 1", "z 5 24"},
            {"rn4 4", "r 1", "e", "p 1", "z 1 24", "e"}, {"rn4", "r 1", "p 1", "e"}, {"u3", "r 1", "e", "p 5"},
        };
        for (Object[] d : due) {
            Reifytown town = new Reifytown();
            int body = town.addBody();
            for (int i = 1; i < d.length; i++) {
                Checks.write(town, body, (String) d[i]);
            }
            town.addRegion(body, 0, 0, 'f', 0, 2);
            runs("under way, " + d[d.length - 1] + " of " + d.length, town, body, 4, (String) d[0]);
            Checks.same("27 once", town.finals(), 1);
        }
        Reifytown thrown = new Reifytown();
        int taken = Checks.body(thrown, "r 1", "p 1", "e", "= 2 8", "x 2", "p 5", "e");
        thrown.addRegion(taken, 0, 0, 'f', 0, 3);
        thrown.addRegion(taken, 4, 4, 'c', 8, 5);
        runs("thrown and handled, then no return", thrown, taken, 4, "r0 8");
        Checks.same("23 its steps", thrown.steps(), 5);
        int nested = Checks.body(thrown, "r 1", "e", "r 5", "p 1", "e");
        thrown.addRegion(nested, 0, 0, 'f', 0, 2);
        thrown.addRegion(nested, 2, 2, 'f', 0, 3);
        runs("a return with something to be done at last", thrown, nested, 4, "r0 4");
        Checks.same("27 both", thrown.finals(), 2);
        int once = Checks.body(thrown, "r 1", "e", "j 0 5", "p 1", "e", "e", "p 5");
        thrown.addRegion(once, 0, 0, 'f', 0, 2);
        thrown.addRegion(once, 2, 2, 'f', 0, 3);
        runs("a jump with something to be done at last", thrown, once, 4, "rn4 4");
        int jumping = Checks.body(thrown, "r 1", "e", "j 0 3", "j 0 6", "j 0 5", "e", "e");
        thrown.addRegion(jumping, 0, 0, 'f', 0, 2);
        thrown.addRegion(jumping, 3, 3, 'f', 0, 4);
        runs("jumps within what is done at last", thrown, jumping, 4, "rn4");
        Checks.same("27 two, and both are ended", thrown.finals(), 2);
        Reifytown calls = Towns.of("c");
        calls.type(0, -1);
        int fails = Checks.body(calls, "x 1");
        int handles = Checks.body(calls, "x 1", "r 5");
        calls.addRegion(handles, 0, 0, 'c', -1, 1);
        calls.addMethod(0, 0, 'v', fails);
        calls.addMethod(0, 1, 'v', handles);
        for (int name = 0; name < 2; name++) {
            int outer = Checks.body(calls, "N 2 2", "r 1", "e", "C 3 2 " + name + " 1", "e", "= 4 9", "p 4");
            calls.addRegion(outer, 1, 1, 'f', 0, 3);
            calls.addRegion(outer, 3, 3, 'c', -1, 5);
            runs("thrown out of what it calls, or not " + name, calls, outer, 4, name == 0 ? "r0 9" : "rn4");
        }
    }

    /** A filter sees the local 0 as it is then, and changes what it holds; all calls are still under way. */
    private static void filtersSee() {
        Reifytown town = Towns.of("s", "c");
        town.type(0, -1);
        town.type(1, -1);
        int filter = Checks.body(town, ". 2 0 1", "p 2", "= 3 8", "! 3 0 1", "= 0 1", "r 0");
        String[] steps = {"N 0 #", "! 1 0 1", "x 1", "e", ". 2 0 1", "p 2", "r 5"};
        for (int type = 2; type < 4; type++) {
            int body = town.addBody();
            for (String step : steps) {
                Checks.write(town, body, step.replace("#", "" + type));
            }
            town.addRegion(body, 2, 2, 'w', filter, 4);
            runs("the local 0 of the run " + type, town, body, 6, "rn6 6 8");
        }
        int boxed = Checks.body(town, "! 1 0 1", "x 1", "e", "r 0");
        town.addRegion(boxed, 1, 1, 'w', filter, 3);
        town.addMethod(0, 0, 'v', boxed);
        runs("a receiver in a box", town, Checks.body(town, "N 2 2", "B 3 2", "C 4 3 0 1", ". 5 4 1", "p 5", "U 4 3 2", ". 5 4 1",
            "r 5"), 6, "rn8 6 8");
        runs("a receiver in a local", town, Checks.body(town, "N 2 2", "C 4 2 0 1", ". 5 4 1", "p 5", ". 5 2 1", "r 5"), 6,
            "rn8 6 8");
        runs("a receiver in a target", town, Checks.body(town, "N 2 2", "D 3 2 0", "I 4 3 1", ". 5 4 1", "p 5", ". 5 2 1", "r 5"), 6,
            "rn0 6 8");
        int null0 = Checks.body(town, "x 1", "r 5", "= 2 9", "r 2");
        town.addRegion(null0, 0, 0, 'w', filter, 1);
        town.addRegion(null0, 0, 0, 'c', 6, 2);
        runs("a local 0 that is null, so the filter throws", town, null0, 6, "rn9");
        Reifytown all = Towns.of("c");
        all.type(0, -1);
        int puts = Checks.body(all, "p 1");
        int yes = Checks.body(all, "p 1", "= 2 -1", "r 2");
        int inner = Checks.body(all, "x 1", "e", "= 2 77", "p 2", "e");
        all.addRegion(inner, 0, 0, 'w', puts, 1);
        all.addRegion(inner, 0, 0, 'f', 0, 2);
        all.addRegion(inner, 0, 0, 'w', puts, 1);
        all.addMethod(0, 0, 'v', inner);
        int outer = Checks.body(all, "N 2 2", "C 3 2 0 1", "r 3", "r 5");
        all.addRegion(outer, 1, 1, 'w', puts, 3);
        all.addRegion(outer, 1, 1, 'w', yes, 3);
        runs("all filters ahead of what is done at last", all, outer, 5, "rn5 5 5 5 5 77");
        Checks.same("25 four filters and a method", all.calls(), 5);
        goingOn();
        Reifytown throwing = new Reifytown();
        int other = Checks.body(throwing, "= 2 99", "x 2");
        int asks = Checks.body(throwing, "x 1", "r 5");
        throwing.addRegion(asks, 0, 0, 'w', other, 1);
        throwing.addRegion(asks, 0, 0, 'c', 99, 1);
        runs("what a filter throws is forgotten", throwing, asks, 5, "u5");
        throwing.addRegion(asks, 0, 0, 'c', 5, 1);
        runs("what was thrown goes on", throwing, asks, 5, "rn5");
    }

    /** While filters are asked, the iterator that threw still goes on; when its handler begins, it is over. */
    private static void goingOn() {
        Reifytown town = Towns.of("c");
        town.type(0, -1);
        int within = Checks.body(town, "x 1", "e", "p 1", "e");
        town.addRegion(within, 0, 0, 'f', 0, 2);
        town.addMethod(0, 0, 'v', within);
        int asks = Checks.body(town, ". 3 0 0", "E 4 3 5", "= 2 1", "r 2", "p 5", "r 4");
        town.addRegion(asks, 1, 1, 'c', 5, 4);
        int body = Checks.body(town, "N 0 2", "G 3 0 0 1", "! 3 0 0", "E 4 3 5", "e", "E 4 3 5", "r 4");
        town.addRegion(body, 3, 3, 'w', asks, 5);
        // The local 4 of the filter is null, which is no number: it does not accept.
        runs("E in a filter of one that goes on", town, body, 6, "u6 5");
        town.addRegion(body, 3, 3, 'c', -1, 5);
        runs("it is over behind that", town, body, 6, "rn0 5 6");
        Checks.same("27 what it had to do at last", town.finals(), 1);
        int ownHandler = Checks.body(town, "r 1", "e", "x 1", "p 1", "r 5");
        town.addRegion(ownHandler, 0, 0, 'f', 0, 2);
        town.addRegion(ownHandler, 0, 1, 'c', -1, 3);
        runs("what is done at last is not within what it is told for", town, ownHandler, 6, "u6");
        town.addRegion(ownHandler, 2, 2, 'c', -1, 4);
        runs("but where it lies", town, ownHandler, 6, "rn6");
    }

    /** Made ready once for each type, ahead of the first use; others see what is there while it goes on. */
    private static void staticsFirst() {
        Reifytown town = Towns.of("c=-", "c", "c");
        int ofInt = town.type(0, 0);
        int ofObject = town.type(0, 1);
        int one = town.type(1, -1);
        int other = town.type(2, -1);
        int ready = Checks.body(town, "= 2 7", "p 2", "N 3 -1", "s 3 -2 1", "S 4 -2 0", "p 4");
        town.setReady(0, ready);
        String[][] uses = {{"S 2 2 0", "r0 7 0"}, {"s 1 2 0", "r0 7 0"}, {"S 2 2 1", "r0 7 0"}, {"s 1 2 1", "r0 7 0"}};
        for (String[] use : uses) {
            runs("made ready by " + use[0], town, Checks.body(town, use[0]), 5, use[1]);
            Checks.same("25 once", town.calls(), 1);
            runs("once by " + use[0], town, Checks.body(town, use[0], use[0], "S 3 2 0", "s 3 2 0"), 5, use[1]);
            Checks.same("25 just once", town.calls(), 1);
        }
        runs("not for object, which can't be made", town, Checks.body(town, "S 2 " + ofObject + " 0"), 5, "u3 7");
        runs("each type", town, Checks.body(town, "S 2 " + ofInt + " 0", "d 3 " + ofInt, "N 3 " + ofInt, "S 4 " + one + " 0"), 5,
            "r0 7 0");
        Reifytown two = Towns.of("c", "c");
        two.type(0, -1);
        two.type(1, -1);
        two.setReady(0, Checks.body(two, "= 2 3", "s 2 2 0", "S 3 3 0", "p 3", "= 2 4", "s 2 2 0"));
        two.setReady(1, Checks.body(two, "S 3 2 0", "p 3", "= 2 5", "s 2 3 0"));
        runs("while it goes on", two, Checks.body(two, "S 2 2 0", "p 2", "S 2 3 0", "r 2"), 5, "rn5 3 5 4");
        runs("the other way", two, Checks.body(two, "S 2 3 0", "p 2", "S 2 2 0", "r 2"), 5, "rn4 0 4 5");
        Checks.same("25 both", two.calls(), 2);
        two.setReady(0, -1);
        two.setReady(1, -1);
        runs("none to make ready", two, Checks.body(two, "S 2 2 0", "S 3 3 0", "r 3"), 5, "rn0");
        Checks.same("25 none", two.calls(), 0);
        Checks.same("6 no more types", other + 1, town.types());
    }

    /** What it throws is thrown by this use and by each later one, of this type alone. */
    private static void staticsSpoilt() {
        Reifytown town = Towns.of("c=-");
        town.type(0, 0);
        town.type(0, 1);
        int ready = Checks.body(town, "= 2 8", "s 2 -2 0", "U 3 2 -1", "x 2", "e", "p 2", "e");
        town.addRegion(ready, 3, 3, 'f', 0, 5);
        town.setReady(0, ready);
        String[] uses = {"S 2 # 0", "S 2 # 1", "s 1 # 0", "s 1 # 1"};
        for (String first : uses) {
            for (String second : uses) {
                Reifytown spoilt = Towns.of("c", "c");
                spoilt.type(0, -1);
                spoilt.type(1, -1);
                int fails = Checks.body(spoilt, "= 2 8", "s 2 2 0", "x 2", "e", "p 2", "e");
                spoilt.addRegion(fails, 2, 2, 'f', 0, 4);
                spoilt.setReady(0, fails);
                int body = Checks.body(spoilt, first.replace('#', '2'), "e", "p 5", second.replace('#', '2'), "e", "p 5",
                    second.replace('#', '3'), "= 4 1", "r 4", "r 5");
                spoilt.addRegion(body, 0, 0, 'c', 8, 2);
                spoilt.addRegion(body, 3, 3, 'c', 8, 5);
                runs("thrown by " + first + " and " + second, spoilt, body, 5, "rn1 8 8 8");
                Checks.same("25 called once", spoilt.calls(), 1);
                Checks.same("27 done at last once", spoilt.finals(), 1);
                Checks.same("22 as it left it", spoilt.staticOf(2, 0), 8);
                Checks.same("22 never set", spoilt.staticOf(2, 1), 0);
                runs("not handled " + first, spoilt, Checks.body(spoilt, first.replace('#', '2')), 5, "u8 8");
            }
        }
        runs("thrown in it by the machine", town, Checks.body(town, "S 2 2 0"), 5, "u2");
        runs("for another type too", town, Checks.body(town, "S 2 3 0"), 5, "u8 8");
        Reifytown outside = Towns.of("c");
        outside.type(0, -1);
        outside.setReady(0, Checks.body(outside, "= 2 8", "x 2"));
        int around = Checks.body(outside, "S 2 2 0", "e", "r 5", "p 2", "e");
        outside.addRegion(around, 0, 0, 'f', 0, 3);
        outside.addRegion(around, 0, 0, 'c', 8, 2);
        runs("thrown from the step that uses it", outside, around, 5, "u3");
        int filter = Checks.body(outside, "p 1", "r 1");
        int asked = Checks.body(outside, "S 2 2 0", "r 5");
        outside.addRegion(asked, 0, 0, 'w', filter, 1);
        runs("filters are asked once, for the use", outside, asked, 5, "rn8 8");
        Checks.same("25 with the filter", outside.calls(), 2);
    }

    private static void answersOfEnds() {
        Reifytown town = new Reifytown();
        int returns = Checks.body(town, "p 1", "r 1");
        int throwing = Checks.body(town, "p 1", "p 1", "x 1");
        int round = Checks.body(town, "j 0 0");
        int nothing = town.addBody();
        int[] bodies = {returns, throwing, round, nothing, returns};
        char[] ends = {'r', 'u', 'l', 'r', 'r'};
        int[] outputs = {1, 2, 0, 0, 1};
        for (int i = 0; i < bodies.length; i++) {
            Checks.same("15 end " + i, i % 2 == 0 ? town.run(bodies[i], -7) : town.runWritten(bodies[i], -7), ends[i]);
            Object returned = ends[i] != 'r' ? "NoSuchElementException" : i == 3 ? '0' : (Object) 'n';
            Checks.same("17 end " + i, Twins.answer(town::returned), returned);
            Checks.same("18 end " + i, Twins.answer(town::number), i == 0 || i == 4 ? -7 : "NoSuchElementException");
            Checks.same("19 end " + i, Twins.answer(town::unhandled), i == 1 ? -7 : "NoSuchElementException");
            Checks.same("20 end " + i, town.outputs(), outputs[i]);
            for (int k = 0; k < outputs[i]; k++) {
                Checks.same("21 end " + i, town.output(k), -7);
            }
            Checks.same("21 no more " + i, Twins.answer(() -> town.output(town.outputs())), "IndexOutOfBoundsException");
            Checks.same("29 no calls " + i, Twins.answer(town::pieceShare), "ArithmeticException");
        }
        Checks.same("28 all", town.allSteps(), 2L + 3 + 1000 + 0 + 2);
        Checks.same("30 mean", town.meanSteps(), 1007.0 / 5.0);
    }

    /** A question that is refused leaves all as it is, after each sort of run. */
    private static void answersStay() {
        for (int i = 0; i < 4; i++) {
            int sort = i;
            Twins.Made made = () -> {
                Reifytown town = Towns.of("c");
                town.type(0, -1);
                int[] bodies = {Checks.body(town, "s 1 2 0", "p 1", "N 2 2", "s 2 2 1", "r 2"), Checks.body(town, "p 1", "x 1"),
                    Checks.body(town, "p 1", "j 0 0"), Checks.body(town)};
                town.run(bodies[sort], 3);
                return town;
            };
            Twins.missing("18 no number " + i, made, Reifytown::number);
            if (i == 1 || i == 2) {
                Twins.missing("17 nothing returned " + i, made, t -> (Object) t.returned());
            }
            if (i != 1) {
                Twins.missing("19 nothing unhandled " + i, made, Reifytown::unhandled);
            }
            Twins.arithmetic("29 no calls " + i, made, Reifytown::pieceShare);
            int outputs = made.town().outputs();
            int[] wrong = {LEAST, -1, outputs, outputs + 1, MOST};
            for (int n : wrong) {
                Twins.index("21 no output " + n, made, t -> t.output(n));
            }
            Twins.index("15 no body", made, t -> (Object) t.run(4, 0));
            Twins.index("31 no body", made, t -> (Object) t.isSame(4, 0));
            Twins.missing("22 of int " + i, made, t -> t.staticOf(0, 0));
            Twins.missing("22 of object " + i, made, t -> t.staticOf(1, 1));
            if (i == 0) {
                Twins.missing("22 an object", made, t -> t.staticOf(2, 1));
            }
        }
    }

    private static void promise21Places() {
        Reifytown town = new Reifytown();
        int body = Checks.body(town, "= 2 1", "p 1", "- 1 1 2", "z 1 5", "j 0 1");
        for (int count = 1; count < 30; count += 7) {
            town.run(body, count);
            Checks.same("20 of " + count, town.outputs(), count);
            for (int i = -3; i < count + 3; i++) {
                int at = i;
                Object due = i >= 0 && i < count ? count - i : "IndexOutOfBoundsException";
                Checks.same("21 place " + i + " of " + count, Twins.answer(() -> town.output(at)), due);
            }
        }
        town.run(town.addBody(), 0);
        Checks.same("20 none", town.outputs(), 0);
        Checks.index("21 the one of an earlier run", () -> town.output(0));
    }

    private static void promise22Numbers() {
        int[] types = {LEAST, -2, -1, 9, 10, 60, MOST};
        for (int n : types) {
            Twins.index("22 type " + n, Towns::rich, t -> t.staticOf(n, 0));
            Twins.index("22 type, ahead of the static " + n, Towns::rich, t -> t.staticOf(n, 2));
        }
        int[] statics = {LEAST, -2, -1, 2, 3, MOST};
        for (int n : statics) {
            Twins.argument("22 static " + n, Towns::rich, t -> t.staticOf(4, n));
            Twins.argument("22 static of int " + n, Towns::rich, t -> t.staticOf(0, n));
            Twins.argument("22 static, ahead of no run " + n, Reifytown::new, t -> t.staticOf(1, n));
        }
        Twins.index("22 type, ahead of no run", Reifytown::new, t -> t.staticOf(2, 0));
        Twins.Made made = () -> {
            Reifytown town = Towns.of("c");
            town.type(0, -1);
            return town;
        };
        Twins.missing("22 no run", made, t -> t.staticOf(2, 0));
        Twins.missing("22 no run, but both ways", () -> {
            Reifytown town = made.town();
            town.isSame(town.addBody(), 0);
            return town;
        }, t -> t.staticOf(2, 0));
        Reifytown rich = Towns.rich();
        Checks.same("22 made ready", rich.staticOf(4, 0), 5);
        Checks.same("22 set", rich.staticOf(4, 1), 4);
        Checks.same("22 of an interface", rich.staticOf(2, 1), 0);
        Checks.same("22 of the last type", rich.staticOf(8, 1), 0);
        Reifytown full = Towns.fullOfTypes();
        int body = Checks.body(full, "s 1 59 1", "s 1 2 0");
        full.run(body, LEAST);
        Checks.same("22 of the sixtieth", full.staticOf(59, 1), LEAST);
        Checks.same("22 its other one", full.staticOf(59, 0), 0);
        Checks.same("22 of the first", full.staticOf(2, 0), LEAST);
        Checks.index("22 of the sixty-first", () -> full.staticOf(60, 0));
        Reifytown later = Towns.of("c", "c=-");
        later.run(later.addBody(), 0);
        Checks.same("22 made behind the run", later.staticOf(later.type(0, -1), 0), 0);
        Checks.same("22 that too", later.staticOf(later.type(1, 0), 1), 0);
        int limit = Checks.body(later, "s 1 2 0", "j 0 1");
        Checks.same("15 too many steps", later.run(limit, 9), 'l');
        Checks.same("22 as it was left", later.staticOf(2, 0), 9);
    }

    private static void countsOfOne() {
        Reifytown town = Towns.of("c=-", "s");
        int ofInt = town.type(0, 0);
        int ofObject = town.type(0, 1);
        int ofClass = town.type(0, ofInt);
        int structure = town.type(1, -1);
        int ofStructure = town.type(0, structure);
        int empty = town.addBody();
        for (int name = 0; name < 6; name++) {
            town.addMethod(0, name, 'v', empty);
        }
        List<String> all = new ArrayList<>();
        int[] types = {ofInt, ofObject, ofClass, ofStructure};
        int[] shared = {1, 2, 2, 3};
        for (int i = 0; i < 4; i++) {
            all.add("N 2 " + types[i]);
            all.add("C 3 2 0 1");
            all.add("C 3 2 0 1");
            int body = Checks.body(town, all.toArray(new String[0]));
            town.run(body, 0);
            Checks.same("24 shared " + i, town.pieces(), shared[i]);
            Checks.same("25 calls " + i, town.calls(), 2 * i + 2);
            Checks.same("29 share " + i, town.pieceShare(), (float) shared[i] / (2 * i + 2));
            town.runWritten(body, 0);
            Checks.same("24 written out " + i, town.pieces(), i + 1);
            Checks.same("29 share written out " + i, town.pieceShare(), 0.5f);
        }
        int names = Checks.body(town, "N 2 " + ofInt, "C 3 2 0 1", "C 3 2 1 1", "C 3 2 2 1", "C 3 2 3 1", "C 3 2 4 1", "C 3 2 5 1");
        town.run(names, 0);
        Checks.same("24 six names", town.pieces(), 6);
        Checks.same("29 all are new", town.pieceShare(), 1f);
        int made = Checks.body(town, "N 2 " + ofInt, "G 3 2 0 1", "G 4 2 0 1", "C 5 2 0 1", "D 5 2 1", "D 5 2 0", "I 5 5 1");
        town.run(made, 0);
        Checks.same("24 made an iterator first", town.pieces(), 1);
        Checks.same("25 iterators are no calls, nor are targets", town.calls(), 2);
        Reifytown many = Towns.of("c", "c=-", "c=-", "c=-", "c=-", "c=-", "c=-", "c=-", "c=-");
        many.addMethod(1, 0, 'v', many.addBody());
        many.addMethod(1, 1, 'v', 0);
        for (int i = 0; i < 56; i++) {
            many.type(1 + i % 8, i / 8);
        }
        Checks.same("5 the last but one", many.type(0, -1), 58);
        Checks.same("5 the last", many.type(1, 58), 59);
        int far = Checks.body(many, "N 2 59", "C 3 2 10 1", "N 2 2", "C 3 2 11 1", "N 2 10", "C 3 2 10 1", "C 3 2 11 1");
        many.runWritten(far, 0);
        Checks.same("24 for the last types", many.pieces(), 4);
        many.run(far, 0);
        Checks.same("24 for the last types, shared", many.pieces(), 3);
        Reifytown boxes = new Reifytown();
        boxes.run(Checks.body(boxes, "B 2 1", "B 3 2", "B 4 5", "B 5 1", "B 5 1"), 0);
        Checks.same("26 three", boxes.boxes(), 3);
        boxes.run(Checks.body(boxes, "B 2 1", "j 0 0"), 0);
        Checks.same("26 each second step", boxes.boxes(), 500);
        boxes.run(boxes.addBody(), 0);
        Checks.same("26 none", boxes.boxes(), 0);
    }

    private static void countsOfAll() {
        Reifytown town = new Reifytown();
        int none = town.addBody();
        int three = Checks.body(town, "e", "e", "e");
        int round = Checks.body(town, "j 0 0");
        Checks.arithmetic("30 no run", () -> town.meanSteps());
        town.isSame(round, 0);
        Checks.arithmetic("30 no run but isSame", () -> town.meanSteps());
        Checks.same("28 none", town.allSteps(), 0L);
        town.run(none, 0);
        Checks.same("30 a run without steps", town.meanSteps(), 0.0);
        town.run(three, 0);
        Checks.same("30 one and a half", town.meanSteps(), 1.5);
        town.runWritten(three, 0);
        Checks.same("30 two", town.meanSteps(), 2.0);
        Checks.index("15 refused", () -> town.run(3, 0));
        Checks.same("30 refused is not counted", town.meanSteps(), 2.0);
        for (int i = 0; i < 400; i++) {
            town.run(round, i);
        }
        Checks.same("28 more than 400 thousand", town.allSteps(), 400006L);
        Checks.same("30 of 403", town.meanSteps(), 400006.0 / 403.0);
    }

    /** isSame leaves the last run as it is; only the types that it makes stay. */
    private static void promise31Stays() {
        for (int i = 0; i < 5; i++) {
            Reifytown asked = Towns.rich();
            Reifytown plain = Towns.rich();
            int body = Checks.body(asked, "s 1 4 0", "N 2 -4", "B 3 1", "p 1", i % 2 == 0 ? "x 1" : "j 0 2");
            Checks.body(plain, "s 1 4 0", "N 2 -4", "B 3 1", "p 1", i % 2 == 0 ? "x 1" : "j 0 2");
            Checks.same("31 same " + i, asked.isSame(i < 3 ? body : i, i), true);
            Checks.same("31 last " + i, Checks.tells(asked), Checks.tells(plain));
            int[] got = {asked.steps(), asked.pieces(), asked.calls(), asked.boxes(), asked.finals(), asked.staticOf(4, 0)};
            int[] due = {plain.steps(), plain.pieces(), plain.calls(), plain.boxes(), plain.finals(), plain.staticOf(4, 0)};
            Checks.same("31 counts " + i, java.util.Arrays.toString(got), java.util.Arrays.toString(due));
            Checks.same("31 all steps " + i, asked.allSteps(), plain.allSteps());
            Checks.same("31 mean " + i, asked.meanSteps(), plain.meanSteps());
            Checks.same("31 types " + i, asked.types(), plain.types());
        }
        Reifytown town = Towns.of("c", "c=-");
        int body = Checks.body(town, "N 2 -3");
        Checks.same("31 a type by both", town.isSame(body, 0), true);
        Checks.same("31 is made once", town.types(), 3);
        Checks.state("31 it was made", () -> town.setParent(1, 0, -1));
    }

    /** As many calls as an object is used for: each of them answers, the last ones as the first. */
    private static void calls512() {
        Reifytown town = Towns.of("s", "c");
        town.type(0, -1);
        town.type(1, -1);
        town.addMethod(1, 0, 'v', town.addBody());
        town.addMethod(0, 0, 'v', Checks.body(town, "! 1 0 0", "y 0"));
        int dear = Checks.body(town, "N 2 3", "N 4 2", "! 2 4 0", "B 3 4", "G 5 4 0 1", "E 3 5 3", "D 3 2 10", "P 3 3 3", "I 3 3 1",
            "p 1", "j 0 0", "e");
        town.addRegion(dear, 10, 10, 'f', 0, 11);
        int told = 24;
        for (int call = told; call + 5 <= 512; call += 5) {
            Checks.same("15 call " + call, town.run(dear, 3), 'l');
            Checks.same("23 call " + call, town.steps(), 1000);
            Checks.same("26 call " + call, town.boxes(), 72);
            Checks.same("27 call " + call, town.finals(), 71);
            Checks.same("31 call " + call, town.isSame(dear, 3), true);
        }
    }
}
