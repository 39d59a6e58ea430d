/** Promises 1 to 14: what is told of kinds, types, methods and code. */
public final class KindsTest {
    public static void main(String[] args) {
        promise1NewObject();
        promise2AddKind();
        promise3SetParent();
        promise4AddInterface();
        promise5Type();
        promise6Types();
        promise7IsBelow();
        promise7Rings();
        promise8AddMethod();
        promise9Tell();
        promise10SetReady();
        promise11AddBody();
        promise12AddStep();
        promise13AddRegion();
        promise14FoundByClass();
        promise14FoundByInterface();
        promise14FoundDefaults();
        Checks.close("KindsTest");
    }

    private static Reifytown town(String... kinds) {
        Reifytown town = new Reifytown();
        for (String kind : kinds) {
            char letter = kind.charAt(0);
            boolean hasParameter = kind.length() > 1;
            town.addKind(letter, hasParameter, hasParameter ? kind.charAt(1) : '=', hasParameter ? kind.charAt(2) : '-');
        }
        return town;
    }

    private static void promise1NewObject() {
        Reifytown town = new Reifytown();
        Checks.same("1 types", town.types(), 2);
        Checks.same("1 int below object", town.isBelow(0, 1), true);
        Checks.same("1 outputs", town.outputs(), 0);
        Checks.same("1 steps", town.steps(), 0);
        Checks.same("1 pieces", town.pieces(), 0);
        Checks.same("1 calls", town.calls(), 0);
        Checks.same("1 boxes", town.boxes(), 0);
        Checks.same("1 finals", town.finals(), 0);
        Checks.same("1 allSteps", town.allSteps(), 0L);
        Checks.index("1 no body", () -> town.run(0, 0));
        Checks.index("1 no kind", () -> town.type(0, -1));
        Checks.same("1 first kind", town.addKind('c', false, '=', '-'), 0);
        Checks.same("1 first body", town.addBody(), 0);
    }

    private static void promise2AddKind() {
        Reifytown town = new Reifytown();
        Checks.argument("2 letter", () -> town.addKind('k', false, '=', '-'));
        Checks.argument("2 variance", () -> town.addKind('i', true, '*', '-'));
        Checks.argument("2 limit", () -> town.addKind('c', true, '=', 'x'));
        Checks.argument("2 class with variance", () -> town.addKind('c', true, '+', '-'));
        Checks.argument("2 structure with variance", () -> town.addKind('s', true, '-', '-'));
        Checks.argument("2 interface without parameter", () -> town.addKind('i', false, '+', '-'));
        Checks.argument("2 limit without parameter", () -> town.addKind('c', false, '=', 'r'));
        String[] good = {"c=-", "s=v", "i+r", "i--", "i=v"};
        for (int i = 0; i < good.length; i++) {
            String g = good[i];
            Checks.same("2 " + g, town.addKind(g.charAt(0), true, g.charAt(1), g.charAt(2)), i);
        }
        for (int i = 5; i < 10; i++) {
            Checks.same("2 kind " + i, town.addKind("csi".charAt(i % 3), false, '=', '-'), i);
        }
        Checks.argument("2 argument ahead of state", () -> town.addKind('k', false, '=', '-'));
        Checks.state("2 eleventh", () -> town.addKind('c', false, '=', '-'));
        Checks.index("2 nothing changed", () -> town.type(10, -1));
    }

    private static void promise3SetParent() {
        Reifytown town = town("c", "c=-", "c=r", "c", "i", "s", "c=r", "c=v");
        int structure = town.type(5, -1);
        Checks.index("3 no kind", () -> town.setParent(8, 0, -1));
        Checks.index("3 negative kind", () -> town.setParent(-1, 0, -1));
        Checks.index("3 no parent", () -> town.setParent(3, 8, -1));
        Checks.index("3 no type", () -> town.setParent(3, 1, town.types()));
        Checks.index("3 argument -3", () -> town.setParent(3, 1, -3));
        Checks.index("3 index ahead of argument", () -> town.setParent(4, 1, 99));
        Checks.argument("3 interface", () -> town.setParent(4, 0, -1));
        Checks.argument("3 structure", () -> town.setParent(5, 0, -1));
        Checks.argument("3 parent is an interface", () -> town.setParent(6, 4, -1));
        Checks.argument("3 itself", () -> town.setParent(3, 3, -1));
        Checks.argument("3 higher number", () -> town.setParent(0, 3, -1));
        Checks.argument("3 argument too much", () -> town.setParent(3, 0, 0));
        Checks.argument("3 own argument too much", () -> town.setParent(1, 0, -2));
        Checks.argument("3 argument missing", () -> town.setParent(3, 1, -1));
        Checks.argument("3 no own parameter", () -> town.setParent(3, 1, -2));
        Checks.unsupported("3 limit r", () -> town.setParent(3, 2, 0));
        Checks.unsupported("3 limit r of a structure", () -> town.setParent(3, 2, structure));
        Checks.unsupported("3 own with another limit", () -> town.setParent(7, 2, -2));
        Checks.same("3 own with the same limit", town.setParent(6, 2, -2), 1);
        Checks.same("3 own below none", town.setParent(2, 1, -2), 1);
        Checks.same("3 second child", town.setParent(3, 1, 0), 2);
        Checks.state("3 has one", () -> town.setParent(3, 1, 0));
        Checks.unsupported("3 limit ahead of state", () -> town.setParent(3, 2, 0));
        town.type(7, 0);
        Checks.state("3 has a type", () -> town.setParent(7, 1, -2));
    }

    private static void promise4AddInterface() {
        Reifytown town = town("i", "i+-", "i=r", "i=v", "i", "c", "s=v", "c=-", "i");
        Checks.index("4 no kind", () -> town.addInterface(9, 0, -1));
        Checks.index("4 no other", () -> town.addInterface(5, 9, -1));
        Checks.index("4 no type", () -> town.addInterface(5, 1, 2));
        Checks.index("4 argument -3", () -> town.addInterface(5, 1, -3));
        Checks.argument("4 a class", () -> town.addInterface(6, 5, -1));
        Checks.argument("4 not lower", () -> town.addInterface(0, 4, -1));
        Checks.argument("4 itself", () -> town.addInterface(4, 4, -1));
        Checks.argument("4 argument too much", () -> town.addInterface(5, 0, 1));
        Checks.argument("4 argument missing", () -> town.addInterface(5, 1, -1));
        Checks.argument("4 no own parameter", () -> town.addInterface(5, 1, -2));
        Checks.unsupported("4 limit r", () -> town.addInterface(5, 2, 0));
        Checks.unsupported("4 limit v", () -> town.addInterface(5, 3, 1));
        Checks.unsupported("4 own with another limit", () -> town.addInterface(7, 3, -2));
        Checks.same("4 own with the same limit", town.addInterface(6, 3, -2), 1);
        Checks.same("4 own below none", town.addInterface(6, 1, -2), 2);
        Checks.same("4 interface", town.addInterface(4, 0, -1), 1);
        Checks.state("4 again", () -> town.addInterface(6, 1, 0));
        Checks.same("4 third", town.addInterface(6, 0, -1), 3);
        Checks.state("4 fourth", () -> town.addInterface(6, 4, -1));
        Checks.same("4 a class", town.addInterface(5, 1, 1), 1);
        town.type(5, -1);
        Checks.state("4 has a type", () -> town.addInterface(5, 0, -1));
        Checks.unsupported("4 limit ahead of state", () -> town.addInterface(5, 2, 0));
    }

    private static void promise5Type() {
        Reifytown town = town("c", "c=-", "s=v", "i+r");
        Checks.index("5 no kind", () -> town.type(4, -1));
        Checks.index("5 negative kind", () -> town.type(-1, -1));
        Checks.index("5 no type", () -> town.type(1, 2));
        Checks.index("5 argument -2", () -> town.type(1, -2));
        Checks.argument("5 argument too much", () -> town.type(0, 1));
        Checks.argument("5 argument missing", () -> town.type(1, -1));
        Checks.unsupported("5 limit v", () -> town.type(2, 1));
        Checks.unsupported("5 limit r", () -> town.type(3, 0));
        Checks.same("5 first", town.type(0, -1), 2);
        Checks.same("5 again", town.type(0, -1), 2);
        Checks.same("5 structure of int", town.type(2, 0), 3);
        Checks.same("5 structure of structure", town.type(2, 3), 4);
        Checks.unsupported("5 structure is a value", () -> town.type(3, 4));
        Checks.same("5 third deep", town.type(2, 4), 5);
        Checks.same("5 fourth deep", town.type(1, 5), 6);
        Checks.state("5 too deep", () -> town.type(1, 6));
        Checks.same("5 nothing changed", town.types(), 7);
        Checks.same("5 a reference as it asks for", town.type(3, 1), 7);
    }

    private static void promise6Types() {
        Reifytown town = town("c", "c=-", "c=-");
        Checks.same("6 none", town.types(), 2);
        for (int depth = 0; depth < 4; depth++) {
            int count = town.types();
            for (int a = 0; a < count && town.types() < 60; a++) {
                town.type(1, a);
                if (town.types() < 60) {
                    town.type(2, a);
                }
            }
        }
        Checks.same("6 sixty", town.types(), 60);
        Checks.same("6 still there", town.type(1, 0), 2);
        Checks.state("6 the next", () -> town.type(0, -1));
        Checks.argument("6 argument ahead of state", () -> town.type(0, 0));
        Checks.same("6 nothing changed", town.types(), 60);
    }

    private static void promise7IsBelow() {
        Reifytown town = town("i+-", "i--", "i=-", "c", "c", "c=-", "s", "i");
        town.setParent(4, 3, -1);
        town.addInterface(5, 0, -2);
        town.addInterface(5, 1, -2);
        town.addInterface(5, 2, -2);
        town.addInterface(6, 0, 1);
        int top = town.type(3, -1);
        int sub = town.type(4, -1);
        int ofTop = town.type(5, top);
        int ofSub = town.type(5, sub);
        int outTop = town.type(0, top);
        int outObject = town.type(0, 1);
        int outInt = town.type(0, 0);
        int inTop = town.type(1, top);
        int inSub = town.type(1, sub);
        int sameTop = town.type(2, top);
        int structure = town.type(6, -1);
        int ofInt = town.type(5, 0);
        int outOutTop = town.type(0, outTop);
        int outOutObject = town.type(0, outObject);
        int outInTop = town.type(0, inTop);
        int outInSub = town.type(0, inSub);
        Object[][] due = {
            {sub, top, true}, {top, sub, false}, {top, top, true}, {top, 1, true}, {1, top, false},
            {structure, 1, true}, {outTop, 1, true}, {0, 0, true}, {1, 0, false},
            {ofTop, outTop, true}, {ofSub, outTop, true}, {ofTop, outObject, true}, {ofInt, outObject, false},
            {ofInt, outInt, true}, {ofSub, inTop, false}, {ofTop, inSub, true}, {ofSub, inSub, true},
            {ofSub, sameTop, false}, {ofTop, sameTop, true}, {outTop, outObject, true}, {outObject, outTop, false},
            {outInt, outObject, false}, {inTop, inSub, true}, {inSub, inTop, false}, {structure, outObject, true},
            {structure, outTop, false}, {ofSub, ofTop, false}, {outOutTop, outOutObject, true},
            {outOutObject, outOutTop, false}, {outInTop, outInSub, true}, {outInSub, outInTop, false},
        };
        for (Object[] d : due) {
            Checks.same("7 " + d[0] + " below " + d[1], town.isBelow((Integer) d[0], (Integer) d[1]), d[2]);
        }
        Checks.index("7 first", () -> town.isBelow(town.types(), 0));
        Checks.index("7 second", () -> town.isBelow(0, -1));
    }

    /** A class whose parent has an interface of an interface of the class: asking goes round, and ends. */
    private static void promise7Rings() {
        Reifytown town = town("i--", "c", "c");
        town.setParent(2, 1, -1);
        int sub = town.type(2, -1);
        int ofSub = town.type(0, sub);
        town.addInterface(1, 0, ofSub);
        Checks.same("7 ring", town.isBelow(sub, ofSub), false);
        Checks.same("7 beside the ring", town.isBelow(sub, town.type(0, ofSub)), true);
        Checks.same("7 parent not made", town.types(), 5);
    }

    private static void promise8AddMethod() {
        Reifytown town = town("c", "c", "c", "s", "i");
        town.setParent(1, 0, -1);
        town.setParent(2, 1, -1);
        Checks.index("8 no body", () -> town.addMethod(0, 0, 'v', 0));
        town.addBody();
        Checks.index("8 no kind", () -> town.addMethod(5, 0, 'v', 0));
        Checks.index("8 body -1", () -> town.addMethod(0, 0, 'v', -1));
        Checks.index("8 a body for a", () -> town.addMethod(4, 0, 'a', 0));
        Checks.index("8 index ahead of argument", () -> town.addMethod(0, 9, 'v', 1));
        Checks.argument("8 no name", () -> town.addMethod(0, 6, 'v', 0));
        Checks.argument("8 negative name", () -> town.addMethod(0, -1, 'v', 0));
        Checks.argument("8 d in a class", () -> town.addMethod(0, 0, 'd', 0));
        Checks.argument("8 a in a structure", () -> town.addMethod(3, 0, 'a', -1));
        Checks.argument("8 v in an interface", () -> town.addMethod(4, 0, 'v', 0));
        Checks.argument("8 no letter", () -> town.addMethod(0, 0, 'x', 0));
        Checks.unsupported("8 o on top", () -> town.addMethod(0, 0, 'o', 0));
        Checks.unsupported("8 o in a structure", () -> town.addMethod(3, 0, 'o', 0));
        Checks.same("8 v", town.addMethod(0, 0, 'v', 0), 1);
        Checks.state("8 name taken", () -> town.addMethod(0, 0, 'n', 0));
        Checks.same("8 n", town.addMethod(0, 1, 'n', 0), 2);
        Checks.unsupported("8 o of n", () -> town.addMethod(2, 1, 'o', 0));
        Checks.same("8 o from far", town.addMethod(2, 0, 'o', 0), 1);
        Checks.same("8 n between", town.addMethod(1, 0, 'n', 0), 1);
        Checks.state("8 o taken", () -> town.addMethod(2, 0, 'v', 0));
        Checks.unsupported("8 o ahead of state", () -> town.addMethod(0, 1, 'o', 0));
        Checks.same("8 a", town.addMethod(4, 2, 'a', -1), 1);
        Checks.same("8 d", town.addMethod(4, 3, 'd', 0), 2);
        Checks.state("8 a taken", () -> town.addMethod(4, 3, 'a', -1));
        Checks.same("8 structure", town.addMethod(3, 5, 'v', 0), 1);
        Reifytown lower = town("c", "c", "c");
        lower.addBody();
        lower.setParent(1, 0, -1);
        lower.setParent(2, 1, -1);
        lower.addMethod(0, 0, 'v', 0);
        lower.addMethod(1, 0, 'n', 0);
        Checks.unsupported("8 nearest is n", () -> lower.addMethod(2, 0, 'o', 0));
    }

    private static void promise9Tell() {
        Reifytown town = town("i", "i", "i", "c", "c");
        town.addInterface(1, 0, -1);
        town.addInterface(3, 1, -1);
        town.setParent(4, 3, -1);
        town.addBody();
        Checks.index("9 no kind", () -> town.tell(5, 0, 0, 0));
        Checks.index("9 no other", () -> town.tell(3, 5, 0, 0));
        Checks.index("9 no body", () -> town.tell(3, 0, 0, 1));
        Checks.index("9 body -1", () -> town.tell(3, 0, 0, -1));
        Checks.index("9 index ahead of argument", () -> town.tell(3, 0, 6, 1));
        Checks.argument("9 no name", () -> town.tell(3, 0, 6, 0));
        Checks.argument("9 a class", () -> town.tell(4, 3, 0, 0));
        Checks.argument("9 argument ahead of unsupported", () -> town.tell(3, 2, -1, 0));
        Checks.unsupported("9 not had", () -> town.tell(3, 2, 0, 0));
        Checks.unsupported("9 of the parent", () -> town.tell(4, 0, 0, 0));
        Checks.unsupported("9 itself", () -> town.tell(0, 0, 0, 0));
        Checks.same("9 through another", town.tell(3, 0, 0, 0), 1);
        Checks.same("9 by itself", town.tell(3, 1, 0, 0), 2);
        Checks.same("9 another name", town.tell(3, 1, 5, 0), 3);
        Checks.state("9 again", () -> town.tell(3, 1, 0, 0));
        Checks.same("9 an interface", town.tell(1, 0, 0, 0), 1);
    }

    private static void promise10SetReady() {
        Reifytown town = town("c");
        town.addBody();
        town.addBody();
        Checks.index("10 no kind", () -> town.setReady(1, 0));
        Checks.index("10 no body", () -> town.setReady(0, 2));
        Checks.index("10 body -2", () -> town.setReady(0, -2));
        Checks.same("10 first", town.setReady(0, 1), -1);
        Checks.same("10 second", town.setReady(0, 0), 1);
        Checks.same("10 none", town.setReady(0, -1), 0);
        Checks.same("10 after none", town.setReady(0, -1), -1);
    }

    private static void promise11AddBody() {
        Reifytown town = new Reifytown();
        for (int i = 0; i < 14; i++) {
            Checks.same("11 body", town.addBody(), i);
        }
        Checks.state("11 too many", () -> town.addBody());
        Checks.same("11 empty", town.run(13, 4), 'r');
        Checks.index("11 nothing changed", () -> town.run(14, 4));
    }

    private static void promise12AddStep() {
        Reifytown town = new Reifytown();
        town.addBody();
        Checks.index("12 no body", () -> town.addStep(1, '=', 0, 0, 0, 0));
        Checks.index("12 index ahead of argument", () -> town.addStep(-1, '#', 9, 9, 9, 9));
        for (char op = 0; op < 130; op++) {
            if ("=:+-<?jzNd.!BUTCGEQySsDPMIxrep".indexOf(op) < 0) {
                char none = op;
                Checks.argument("12 no op " + (int) op, () -> town.addStep(0, none, 0, 0, 0, 0));
            }
        }
        String[] wrong = {
            "= 6", "= -1", ": 0 6", ": 6 0", "+ 0 0 6", "+ 0 6 0", "- 0 0 -1", "< 6 0 0", "? 0 6 0", "? 0 0 6",
            "j 0 25", "j 0 -1", "z 0 25", "z 6 0", "N 6 0", "d -1 0", ". 0 0 3", ". 0 6 0", "! 6 0 0", "! 0 0 -1",
            "B 0 6", "B 6 0", "U 6 0 0", "U 0 6 0", "T 0 6 0", "C 0 0 96", "C 0 0 6", "C 0 0 0 6", "C 0 6 0", "C 6",
            "C 0 0 -1", "C 0 0 19", "G 0 0 100", "G 0 0 0 6", "E 0 0 6", "E 0 6", "E 6", "Q 6", "y -1", "S 6 0 0",
            "S 0 0 2", "s 0 0 -1", "s 6 0 0", "D 0 0 96", "D 0 6 0", "D 6", "P 0 0 6", "P 0 6", "P 6", "M 0 0 6",
            "M 0 6", "M 6", "I 0 0 6", "I 0 6", "I 6", "x 6", "r 6", "p 6",
        };
        for (String step : wrong) {
            Checks.argument("12 " + step, () -> {
                Checks.write(town, 0, step);
                return "taken";
            });
        }
        String[] right = {
            "= 5 -77 99 99 ", "j 99 24 99 99", "z 5 24 -9", "N 5 -70", "d 0 900", ". 5 5 2 9", "! 5 5 2", "U 5 5 -99",
            "T 5 5 77", "C 5 5 95 5", "G 0 0 90 0", "E 5 5 5", "Q 5 9 9 9", "S 5 -4 1", "s 0 77 0", "D 5 5 5 9",
            "e 9 9 9 9", "p 5 9 9 9", "x 5 6 6 6", "r 5 6 6 6", "B 5 5 6 6", "P 5 5 5 6", "M 5 5 5 6", "I 5 5 5 6",
        };
        for (int i = 0; i < right.length; i++) {
            String[] w = right[i].split(" ");
            int[] n = new int[4];
            for (int k = 1; k < w.length; k++) {
                n[k - 1] = Integer.parseInt(w[k]);
            }
            Checks.same("12 " + right[i], town.addStep(0, w[0].charAt(0), n[0], n[1], n[2], n[3]), i);
        }
        Checks.state("12 too many", () -> town.addStep(0, '=', 0, 0, 0, 0));
        Checks.argument("12 argument ahead of state", () -> town.addStep(0, '=', 6, 0, 0, 0));
    }

    private static void promise13AddRegion() {
        Reifytown town = new Reifytown();
        town.addBody();
        Checks.index("13 no body", () -> town.addRegion(1, 0, 0, 'f', 0, 1));
        Checks.index("13 no filter", () -> town.addRegion(0, 0, 0, 'w', 1, 1));
        Checks.index("13 filter -1", () -> town.addRegion(0, 0, 0, 'w', -1, 1));
        Checks.index("13 filter ahead of place", () -> town.addRegion(0, 0, 0, 'w', 2, 0));
        Checks.argument("13 letter", () -> town.addRegion(0, 0, 0, 'q', 0, 1));
        Checks.argument("13 first", () -> town.addRegion(0, -1, 0, 'f', 0, 1));
        Checks.argument("13 last", () -> town.addRegion(0, 0, 24, 'f', 0, 0));
        Checks.argument("13 last below first", () -> town.addRegion(0, 3, 2, 'f', 0, 9));
        Checks.argument("13 place -1", () -> town.addRegion(0, 0, 0, 'f', 0, -1));
        Checks.argument("13 place 24", () -> town.addRegion(0, 0, 0, 'f', 0, 24));
        Checks.argument("13 place at first", () -> town.addRegion(0, 2, 4, 'c', 0, 2));
        Checks.argument("13 place at last", () -> town.addRegion(0, 2, 4, 'c', 0, 4));
        Checks.same("13 one", town.addRegion(0, 2, 4, 'c', -99, 5), 1);
        Checks.same("13 two", town.addRegion(0, 23, 23, 'f', 99, 1), 2);
        Checks.same("13 three", town.addRegion(0, 0, 22, 'w', 0, 23), 3);
        Checks.same("13 four", town.addRegion(0, 1, 1, 'c', 7, 0), 4);
        Checks.state("13 five", () -> town.addRegion(0, 1, 1, 'c', 7, 0));
        Checks.argument("13 argument ahead of state", () -> town.addRegion(0, 1, 1, 'c', 7, 1));
    }

    private static Reifytown withBodies(int count, String... kinds) {
        Reifytown town = town(kinds);
        for (int i = 0; i < count; i++) {
            town.addBody();
        }
        return town;
    }

    private static void promise14FoundByClass() {
        Reifytown town = withBodies(6, "c", "c", "c", "c", "s");
        town.setParent(1, 0, -1);
        town.setParent(2, 1, -1);
        town.setParent(3, 2, -1);
        town.addMethod(0, 0, 'v', 0);
        town.addMethod(1, 0, 'o', 1);
        town.addMethod(2, 0, 'v', 2);
        town.addMethod(3, 0, 'o', 3);
        town.addMethod(0, 1, 'v', 0);
        town.addMethod(2, 1, 'n', 2);
        town.addMethod(1, 1, 'o', 4);
        town.addMethod(4, 0, 'n', 5);
        int low = town.type(3, -1);
        int third = town.type(2, -1);
        int top = town.type(0, -1);
        int structure = town.type(4, -1);
        Checks.same("14 first slot", town.found(low, 0, 0), 1);
        Checks.same("14 first slot by the second", town.found(low, 1, 0), 1);
        Checks.same("14 second slot", town.found(low, 2, 0), 3);
        Checks.same("14 second slot by the last", town.found(low, 3, 0), 3);
        Checks.same("14 second slot itself", town.found(third, 2, 0), 2);
        Checks.same("14 top", town.found(top, 0, 0), 0);
        Checks.same("14 n is the one", town.found(low, 2, 1), 2);
        Checks.same("14 n is left out", town.found(low, 0, 1), 4);
        Checks.same("14 structure", town.found(structure, 4, 0), 5);
        Checks.same("14 no method", town.found(low, 0, 5), -1);
        Checks.same("14 not below", town.found(top, 3, 0), -1);
        Checks.same("14 int", town.found(0, 0, 0), -1);
        Checks.same("14 object", town.found(1, 0, 0), -1);
        Checks.index("14 no type", () -> town.found(town.types(), 0, 0));
        Checks.index("14 no kind", () -> town.found(low, 5, 0));
        Checks.index("14 index ahead of argument", () -> town.found(-1, 0, 6));
        Checks.argument("14 no name", () -> town.found(low, 0, 6));
        Checks.argument("14 negative name", () -> town.found(low, 0, -1));
    }

    private static void promise14FoundByInterface() {
        Reifytown town = withBodies(8, "i", "i", "c", "c", "c");
        town.addInterface(1, 0, -1);
        town.setParent(3, 2, -1);
        town.setParent(4, 3, -1);
        town.addInterface(3, 1, -1);
        town.addMethod(0, 0, 'a', -1);
        town.addMethod(0, 1, 'd', 7);
        town.addMethod(2, 0, 'v', 0);
        town.addMethod(4, 0, 'o', 1);
        int low = town.type(4, -1);
        int middle = town.type(3, -1);
        int top = town.type(2, -1);
        Checks.same("14 method above, overridden below", town.found(low, 0, 0), 1);
        Checks.same("14 method above", town.found(middle, 0, 0), 0);
        Checks.same("14 not had", town.found(top, 0, 0), -1);
        Checks.same("14 default", town.found(low, 0, 1), 7);
        Checks.same("14 undeclared name", town.found(low, 1, 0), 1);
        Checks.same("14 none", town.found(low, 0, 2), -1);
        town.tell(3, 0, 0, 2);
        Checks.same("14 told for this interface", town.found(low, 0, 0), 2);
        Checks.same("14 told for this interface alone", town.found(low, 1, 0), 1);
        town.addMethod(4, 1, 'v', 3);
        Checks.same("14 a method of a kind that has it not as its own", town.found(low, 0, 1), 7);
        town.addMethod(3, 2, 'n', 4);
        town.addMethod(4, 2, 'v', 5);
        Checks.same("14 as through the kind that has it", town.found(low, 0, 2), 4);
        int face = town.type(0, -1);
        Checks.same("14 an interface is no receiver", town.found(face, 0, 1), -1);
    }

    private static void promise14FoundDefaults() {
        Reifytown town = withBodies(8, "i", "i", "i", "i", "c", "s", "c");
        town.addInterface(1, 0, -1);
        town.addInterface(2, 0, -1);
        town.addInterface(3, 1, -1);
        town.addInterface(3, 2, -1);
        town.addInterface(4, 1, -1);
        town.addInterface(4, 2, -1);
        town.addInterface(5, 3, -1);
        town.setParent(6, 4, -1);
        town.addMethod(0, 0, 'd', 0);
        int both = town.type(4, -1);
        int structure = town.type(5, -1);
        int child = town.type(6, -1);
        Checks.same("14 default from the top", town.found(both, 0, 0), 0);
        town.tell(1, 0, 0, 1);
        Checks.same("14 more special", town.found(both, 0, 0), 1);
        Checks.same("14 more special, of a structure", town.found(structure, 0, 0), 1);
        town.tell(2, 0, 0, 2);
        Checks.same("14 two alike", town.found(both, 0, 0), -1);
        Checks.same("14 two alike, of a structure", town.found(structure, 0, 0), -1);
        town.tell(3, 0, 0, 3);
        Checks.same("14 one below both", town.found(structure, 0, 0), 3);
        Checks.same("14 still two alike", town.found(both, 0, 0), -1);
        Checks.same("14 two alike above", town.found(child, 0, 0), -1);
        town.tell(4, 0, 0, 4);
        Checks.same("14 the class tells", town.found(both, 0, 0), 4);
        Checks.same("14 the parent tells", town.found(child, 0, 0), 4);
        town.addMethod(1, 0, 'd', 5);
        Checks.same("14 another interface's default", town.found(both, 1, 0), 5);
    }
}
