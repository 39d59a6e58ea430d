/** The bounds of promises 8 to 14: what is empty or full, one too small or too large, and what is refused. */
public final class CodeBoundsTest {
    private static final int LEAST = Integer.MIN_VALUE;
    private static final int MOST = Integer.MAX_VALUE;
    private static final String OPS = "=:+-<?jzNd.!BUTCGEQySsDPMIxrep";

    public static void main(String[] args) {
        promise8Numbers();
        promise8Letters();
        promise8Order();
        promise8Slots();
        promise8Full();
        promise9Numbers();
        promise9Order();
        promise9Full();
        promise10Numbers();
        promise11Full();
        promise12Ops();
        promise12Numbers();
        promise12Full();
        promise13Places();
        promise13Numbers();
        promise13Order();
        promise13Full();
        promise14Numbers();
        promise14Names();
        promise14Slots();
        promise14NotBelow();
        promise14Interfaces();
        promise14Defaults();
        Checks.close("CodeBoundsTest");
    }

    private static void promise8Numbers() {
        int[] kinds = {LEAST, -2, -1, 9, 10, MOST};
        for (int n : kinds) {
            Twins.index("8 kind " + n, Towns::rich, t -> t.addMethod(n, 5, 'v', 0));
            Twins.index("8 kind of an interface " + n, Towns::rich, t -> t.addMethod(n, 5, 'a', -1));
        }
        int[] bodies = {LEAST, -2, -1, 5, 6, 14, MOST};
        for (int n : bodies) {
            Twins.index("8 v with body " + n, Towns::rich, t -> t.addMethod(7, 0, 'v', n));
            Twins.index("8 n with body " + n, Towns::rich, t -> t.addMethod(7, 0, 'n', n));
            Twins.index("8 o with body " + n, Towns::rich, t -> t.addMethod(6, 0, 'o', n));
            Twins.index("8 d with body " + n, Towns::rich, t -> t.addMethod(1, 5, 'd', n));
            if (n != -1) {
                Twins.index("8 a with body " + n, Towns::rich, t -> t.addMethod(1, 5, 'a', n));
            }
        }
        int[] names = {LEAST, -2, -1, 6, 7, MOST};
        for (int n : names) {
            Twins.argument("8 v with name " + n, Towns::rich, t -> t.addMethod(7, n, 'v', 0));
            Twins.argument("8 o with name " + n, Towns::rich, t -> t.addMethod(3, n, 'o', 0));
            Twins.argument("8 a with name " + n, Towns::rich, t -> t.addMethod(1, n, 'a', -1));
        }
        Checks.same("8 least name and body", Towns.rich().addMethod(7, 0, 'v', 0), 1);
        Checks.same("8 greatest name and body", Towns.rich().addMethod(8, 5, 'n', 4), 1);
        Checks.same("8 least kind", Towns.rich().addMethod(0, 5, 'd', 4), 1);
    }

    private static void promise8Letters() {
        String letters = "vonadxfcVONuwpmbe \0\uffff";
        for (int i = 0; i < 3 * letters.length(); i++) {
            char kind = "csi".charAt(i % 3);
            char letter = letters.charAt(i / 3);
            Reifytown town = Towns.of("c", "" + kind);
            town.addBody();
            town.addMethod(0, 0, 'v', 0);
            if (kind == 'c') {
                town.setParent(1, 0, -1);
            }
            boolean isGood = kind == 'i' ? letter == 'a' || letter == 'd' : letter == 'v' || letter == 'o' || letter == 'n';
            Object due = !isGood ? "IllegalArgumentException"
                : kind == 's' && letter == 'o' ? "UnsupportedOperationException" : (Object) 1;
            Object got = Twins.answer(() -> town.addMethod(1, 0, letter, letter == 'a' ? -1 : 0));
            Checks.same("8 " + letter + " in " + kind, got, due);
        }
        Twins.argument("8 v in an interface", Towns::rich, t -> t.addMethod(1, 5, 'v', 0));
        Twins.argument("8 o in an interface", Towns::rich, t -> t.addMethod(1, 5, 'o', 0));
        Twins.argument("8 a in a class", Towns::rich, t -> t.addMethod(7, 5, 'a', -1));
        Twins.argument("8 d in a structure", Towns::rich, t -> t.addMethod(8, 5, 'd', 0));
    }

    private static void promise8Order() {
        Twins.index("8 kind, ahead of the letter", Towns::rich, t -> t.addMethod(9, 0, 'x', 0));
        Twins.index("8 body, ahead of the letter", Towns::rich, t -> t.addMethod(7, 0, 'x', 5));
        Twins.index("8 body, ahead of the name", Towns::rich, t -> t.addMethod(7, 6, 'v', 5));
        Twins.index("8 body, ahead of no slot", Towns::rich, t -> t.addMethod(7, 0, 'o', 5));
        Twins.index("8 body, ahead of a method of this name", Towns::rich, t -> t.addMethod(2, 0, 'v', -1));
        Twins.index("8 a body for a, ahead of a method of this name", Towns::rich, t -> t.addMethod(1, 0, 'a', 5));
        Twins.argument("8 name, ahead of no slot", Towns::rich, t -> t.addMethod(7, 6, 'o', 0));
        Twins.argument("8 letter, ahead of a method of this name", Towns::rich, t -> t.addMethod(2, 0, 'd', 0));
        Twins.argument("8 letter of a class, ahead of a method of this name", Towns::rich, t -> t.addMethod(1, 0, 'o', 0));
        Twins.unsupported("8 no class above", Towns::rich, t -> t.addMethod(7, 0, 'o', 0));
        Twins.unsupported("8 no slot of this name above", Towns::rich, t -> t.addMethod(3, 5, 'o', 0));
        Twins.unsupported("8 the nearest is n", Towns::rich, t -> t.addMethod(3, 1, 'o', 0));
        Twins.unsupported("8 no class above, ahead of its own method", Towns::rich, t -> t.addMethod(2, 0, 'o', 0));
        Twins.unsupported("8 in a structure", Towns::rich, t -> t.addMethod(8, 0, 'o', 0));
        Twins.state("8 v is there", Towns::rich, t -> t.addMethod(2, 0, 'n', 0));
        Twins.state("8 n is there", Towns::rich, t -> t.addMethod(2, 1, 'v', 0));
        Twins.state("8 o is there", Towns::rich, t -> t.addMethod(3, 0, 'o', 0));
        Twins.state("8 a is there", Towns::rich, t -> t.addMethod(1, 0, 'd', 0));
        Twins.state("8 d is there", Towns::rich, t -> t.addMethod(5, 1, 'a', -1));
    }

    /** What lies above for 'o': the nearest method of this name in the parents, not in interfaces or the kind itself. */
    private static void promise8Slots() {
        String above = "von-";
        for (int i = 0; i < 16; i++) {
            char top = above.charAt(i / 4);
            char middle = above.charAt(i % 4);
            if (top == 'o' || middle == 'o' && top != 'v') {
                continue;
            }
            Reifytown town = Towns.of("i", "c", "c", "c", "c");
            town.addBody();
            town.addMethod(0, 3, 'd', 0);
            for (int kind = 1; kind < 4; kind++) {
                town.setParent(kind + 1, kind, -1);
            }
            town.addInterface(4, 0, -1);
            if (top != '-') {
                town.addMethod(1, 3, top, 0);
            }
            if (middle != '-') {
                town.addMethod(2, 3, middle, 0);
            }
            char nearest = middle != '-' ? middle : top;
            Object due = nearest == 'v' || nearest == 'o' ? 1 : "UnsupportedOperationException";
            Checks.same("8 o below " + top + middle, Twins.answer(() -> town.addMethod(4, 3, 'o', 0)), due);
            Checks.unsupported("8 o of another name below " + top + middle, () -> town.addMethod(4, 2, 'o', 0));
        }
    }

    private static void promise8Full() {
        Reifytown town = Towns.of("c", "s", "i");
        town.addBody();
        for (int name = 5; name >= 0; name--) {
            Checks.same("8 in a class", town.addMethod(0, name, name % 2 == 0 ? 'v' : 'n', 0), 6 - name);
            Checks.same("8 in a structure", town.addMethod(1, name, 'v', 0), 6 - name);
            Checks.same("8 in an interface", town.addMethod(2, name, name % 2 == 0 ? 'a' : 'd', name % 2 - 1), 6 - name);
        }
        for (int name = 0; name < 6; name++) {
            int n = name;
            Checks.state("8 again in a class", () -> town.addMethod(0, n, 'n', 0));
            Checks.state("8 again in a structure", () -> town.addMethod(1, n, 'v', 0));
            Checks.state("8 again in an interface", () -> town.addMethod(2, n, 'd', 0));
        }
        Checks.argument("8 one name more", () -> town.addMethod(0, 6, 'v', 0));
    }

    private static void promise9Numbers() {
        int[] kinds = {LEAST, -2, -1, 9, 10, MOST};
        for (int n : kinds) {
            Twins.index("9 kind " + n, Towns::rich, t -> t.tell(n, 1, 1, 0));
            Twins.index("9 other " + n, Towns::rich, t -> t.tell(4, n, 1, 0));
        }
        int[] bodies = {LEAST, -2, -1, 5, 6, 14, MOST};
        for (int n : bodies) {
            Twins.index("9 body " + n, Towns::rich, t -> t.tell(4, 1, 1, n));
        }
        int[] names = {LEAST, -2, -1, 6, 7, MOST};
        for (int n : names) {
            Twins.argument("9 name " + n, Towns::rich, t -> t.tell(4, 1, n, 0));
        }
        Checks.same("9 least name and body", Towns.rich().tell(4, 1, 0, 0), 1);
        Checks.same("9 greatest name and body", Towns.rich().tell(4, 1, 5, 4), 1);
        Checks.same("9 least interface", Towns.rich().tell(6, 0, 0, 0), 1);
    }

    private static void promise9Order() {
        Twins.index("9 kind, ahead of a name", Towns::rich, t -> t.tell(9, 1, 6, 0));
        Twins.index("9 other, ahead of a name", Towns::rich, t -> t.tell(3, 9, 6, 0));
        Twins.index("9 body, ahead of a class", Towns::rich, t -> t.tell(3, 2, 0, 5));
        Twins.index("9 body, ahead of what it has not", Towns::rich, t -> t.tell(2, 1, 0, -1));
        Twins.index("9 body, ahead of what it tells", Towns::rich, t -> t.tell(3, 1, 0, 5));
        Twins.argument("9 name, ahead of what it has not", Towns::rich, t -> t.tell(2, 1, 6, 0));
        Twins.argument("9 name, ahead of a class", Towns::rich, t -> t.tell(3, 2, -1, 0));
        Twins.argument("9 a class", Towns::rich, t -> t.tell(3, 2, 0, 0));
        Twins.argument("9 a structure", Towns::rich, t -> t.tell(3, 8, 0, 0));
        Twins.unsupported("9 what it has not", Towns::rich, t -> t.tell(2, 1, 0, 0));
        Twins.unsupported("9 itself", Towns::rich, t -> t.tell(5, 5, 0, 0));
        Twins.unsupported("9 what has it", Towns::rich, t -> t.tell(1, 5, 0, 0));
        Twins.state("9 a class tells it", Towns::rich, t -> t.tell(3, 1, 0, 0));
        Twins.state("9 an interface tells it", Towns::rich, t -> t.tell(5, 1, 1, 0));
        Twins.Made child = () -> {
            Reifytown town = Towns.of("i", "c", "c", "i");
            town.addBody();
            town.addInterface(1, 0, -1);
            town.setParent(2, 1, -1);
            return town;
        };
        Twins.unsupported("9 what only its parent has", child, t -> t.tell(2, 0, 0, 0));
        Twins.unsupported("9 an interface that has none", child, t -> t.tell(3, 0, 0, 0));
    }

    /** Nine interfaces, three by itself and six through these, with six names each. */
    private static void promise9Full() {
        String[] letters = {"c", "s", "i"};
        for (String letter : letters) {
            Reifytown town = Towns.of("i", "i", "i", "i", "i", "i", "i", "i", "i", letter);
            town.addBody();
            town.addBody();
            for (int other = 0; other < 3; other++) {
                town.addInterface(7, other, -1);
                town.addInterface(8, other + 3, -1);
            }
            for (int other = 8; other > 5; other--) {
                town.addInterface(9, other, -1);
            }
            for (int i = 0; i < 54; i++) {
                Checks.same("9 tells " + i, town.tell(9, i / 6, i % 6, i % 2), i + 1);
            }
            for (int i = 0; i < 54; i++) {
                int at = i;
                Checks.state("9 tells again " + i, () -> town.tell(9, at / 6, at % 6, 0));
            }
            Checks.same("9 each kind has its own", town.tell(7, 2, 5, 0), 1);
            Checks.unsupported("9 of another interface", () -> town.tell(7, 3, 5, 0));
            if (!letter.equals("i")) {
                int type = town.type(9, -1);
                for (int i = 0; i < 54; i++) {
                    Checks.same("14 told " + i, town.found(type, i / 6, i % 6), i % 2);
                }
            }
        }
    }

    private static void promise10Numbers() {
        int[] kinds = {LEAST, -2, -1, 9, 10, MOST};
        for (int n : kinds) {
            Twins.index("10 kind " + n, Towns::rich, t -> t.setReady(n, 0));
            Twins.index("10 kind, none " + n, Towns::rich, t -> t.setReady(n, -1));
        }
        int[] bodies = {LEAST, -3, -2, 5, 6, 14, MOST};
        for (int n : bodies) {
            Twins.index("10 body " + n, Towns::rich, t -> t.setReady(3, n));
        }
        Reifytown town = Towns.rich();
        for (int kind = 0; kind < 9; kind++) {
            Checks.same("10 first of " + kind, town.setReady(kind, 4), kind == 3 ? 3 : -1);
            Checks.same("10 the greatest body of " + kind, town.setReady(kind, 0), 4);
            Checks.same("10 the least body of " + kind, town.setReady(kind, -1), 0);
            Checks.same("10 none of " + kind, town.setReady(kind, -1), -1);
        }
        Reifytown full = Towns.fullOfBodies();
        Checks.same("10 the fourteenth body", full.setReady(0, 13), -1);
        Checks.same("10 and before", full.setReady(0, 13), 13);
        Checks.same("10 of an interface", full.setReady(1, 13), -1);
        Twins.index("10 the fifteenth", Towns::fullOfBodies, t -> t.setReady(0, 14));
    }

    private static void promise11Full() {
        Reifytown town = new Reifytown();
        for (int i = 0; i < 14; i++) {
            int next = i;
            Checks.index("11 not yet " + i, () -> town.run(next, 0));
            Checks.same("11 body " + i, town.addBody(), i);
            Checks.same("11 without steps " + i, town.run(i, 9), 'r');
            Checks.same("11 nothing done", town.steps(), 0);
            Checks.same("11 nothing returned", town.returned(), '0');
            Checks.same("11 the first step", town.addStep(i, 'r', 1, 0, 0, 0), 0);
        }
        Twins.state("11 the fifteenth", Towns::fullOfBodies, Reifytown::addBody);
        Twins.index("11 no fifteenth to run", Towns::fullOfBodies, t -> t.run(14, 0));
        Twins.index("11 no fifteenth for a step", Towns::fullOfBodies, t -> t.addStep(14, 'e', 0, 0, 0, 0));
    }

    private static void promise12Ops() {
        int count = 0;
        Reifytown town = new Reifytown();
        for (int op = 0; op <= Character.MAX_VALUE; op++) {
            char letter = (char) op;
            boolean isThere = OPS.indexOf(letter) >= 0;
            count += isThere ? 1 : 0;
            // No town is called more than 512 times.
            Reifytown asked = op % 400 == 0 || isThere ? new Reifytown() : town;
            town = asked;
            if (op % 400 == 0 || isThere) {
                asked.addBody();
            }
            Object got = Twins.answer(() -> asked.addStep(0, letter, 0, 0, 0, 0));
            if (!got.equals(isThere ? 0 : "IllegalArgumentException")) {
                Checks.same("12 op " + op, got, isThere);
            }
        }
        Checks.same("12 thirty ops", count, 30);
        Checks.same("12 the thirty are all that are told", OPS.length(), 30);
        Twins.argument("12 an op that is none", Towns::rich, t -> t.addStep(4, '#', 0, 0, 0, 0));
    }

    /** For each number of each op: the least and the greatest that it can be, or none of these if it has no meaning. */
    private static void promise12Numbers() {
        String[] ops = {
            "= 5 * * *", ": 5 5 * *", "+ 5 5 5 *", "- 5 5 5 *", "< 5 5 5 *", "? 5 5 5 *", "j * 24 * *", "z 5 24 * *",
            "N 5 * * *", "d 5 * * *", ". 5 5 2 *", "! 5 5 2 *", "B 5 5 * *", "U 5 5 * *", "T 5 5 * *", "C 5 5 95 5",
            "G 5 5 95 5", "E 5 5 5 *", "Q 5 * * *", "y 5 * * *", "S 5 * 1 *", "s 5 * 1 *", "D 5 5 95 *", "P 5 5 5 *",
            "M 5 5 5 *", "I 5 5 5 *", "x 5 * * *", "r 5 * * *", "e * * * *", "p 5 * * *",
        };
        int[] asked = {LEAST, -1000, -2, -1, 0, 1, 2, 3, 4, 5, 6, 7, 9, 10, 23, 24, 25, 26, 59, 60, 95, 96, 100, MOST};
        for (String told : ops) {
            String[] words = told.split(" ");
            char op = words[0].charAt(0);
            for (int at = 0; at < 4; at++) {
                boolean isAny = words[at + 1].equals("*");
                int most = isAny ? MOST : Integer.parseInt(words[at + 1]);
                for (int n : asked) {
                    int[] numbers = new int[4];
                    numbers[at] = n;
                    boolean isGood = isAny || n >= 0 && n <= most && (most != 95 || n % 10 <= 5);
                    Checks.same("12 " + told + ", " + n + " as number " + at, stepOf(op, numbers),
                        isGood ? 0 : "IllegalArgumentException");
                }
            }
            int[] none = {MOST, LEAST, -1, 77};
            Checks.same("12 all the greatest of " + told, stepOf(op, greatest(words, none)), 0);
        }
        for (int way = -5; way < 105; way++) {
            boolean isWay = way >= 0 && way <= 95 && way % 10 <= 5;
            for (char op : new char[] {'C', 'G', 'D'}) {
                Checks.same("12 way " + way, stepOf(op, new int[] {0, 0, way, 0}), isWay ? 0 : "IllegalArgumentException");
            }
        }
        int[] bodies = {LEAST, -1, 5, MOST};
        for (int n : bodies) {
            Twins.index("12 body " + n, Towns::rich, t -> t.addStep(n, 'e', 0, 0, 0, 0));
            Twins.index("12 body, ahead of the op " + n, Towns::rich, t -> t.addStep(n, '#', 0, 0, 0, 0));
            Twins.index("12 body, ahead of a local " + n, Towns::rich, t -> t.addStep(n, 'r', 6, 0, 0, 0));
        }
        Twins.argument("12 a local", Towns::rich, t -> t.addStep(4, 'r', 6, 0, 0, 0));
        Twins.argument("12 a local of -1", Towns::rich, t -> t.addStep(4, 'I', 0, 0, -1, 0));
        Twins.argument("12 a field", Towns::rich, t -> t.addStep(4, '.', 0, 0, 3, 0));
        Twins.argument("12 a static", Towns::rich, t -> t.addStep(4, 's', 0, 0, 2, 0));
        Twins.argument("12 a place", Towns::rich, t -> t.addStep(4, 'z', 0, 25, 0, 0));
        Twins.argument("12 a name", Towns::rich, t -> t.addStep(4, 'C', 0, 0, 16, 0));
    }

    private static int[] greatest(String[] words, int[] none) {
        int[] numbers = new int[4];
        for (int at = 0; at < 4; at++) {
            numbers[at] = words[at + 1].equals("*") ? none[at] : Integer.parseInt(words[at + 1]);
        }
        return numbers;
    }

    private static Object stepOf(char op, int[] n) {
        Reifytown town = new Reifytown();
        town.addBody();
        return Twins.answer(() -> town.addStep(0, op, n[0], n[1], n[2], n[3]));
    }

    private static void promise12Full() {
        Reifytown town = new Reifytown();
        town.addBody();
        town.addBody();
        for (int step = 0; step < 24; step++) {
            Checks.same("12 step " + step, town.addStep(1, 'p', 1, 0, 0, 0), step);
        }
        Checks.state("12 the next one", () -> town.addStep(1, 'p', 1, 0, 0, 0));
        Checks.same("12 all of them are made", town.run(1, 6), 'r');
        Checks.same("12 twenty-four", town.outputs(), 24);
        Checks.same("12 steps", town.steps(), 24);
        Checks.same("12 the other one is empty", town.addStep(0, 'p', 1, 0, 0, 0), 0);
        Twins.state("12 the twenty-fifth", Towns::fullOfBodies, t -> t.addStep(0, 'p', 1, 0, 0, 0));
        Twins.argument("12 no op, ahead of it", Towns::fullOfBodies, t -> t.addStep(0, '#', 1, 0, 0, 0));
        Twins.argument("12 no local, ahead of it", Towns::fullOfBodies, t -> t.addStep(0, 'p', 6, 0, 0, 0));
        Twins.index("12 no body, ahead of it", Towns::fullOfBodies, t -> t.addStep(14, 'p', 1, 0, 0, 0));
    }

    private static void promise13Places() {
        int[] places = {LEAST, -1, 0, 1, 2, 11, 12, 22, 23, 24, 25, MOST};
        int count = places.length;
        for (int i = 0; i < count * count * count; i++) {
            int first = places[i % count];
            int last = places[i / count % count];
            int place = places[i / count / count];
            boolean isRange = first >= 0 && first <= last && last <= 23;
            boolean isGood = isRange && place >= 0 && place <= 23 && (place < first || place > last);
            for (char letter : new char[] {'f', 'c', 'w'}) {
                Reifytown town = new Reifytown();
                town.addBody();
                Object got = Twins.answer(() -> town.addRegion(0, first, last, letter, 0, place));
                String what = "13 " + letter + " from " + first + " to " + last + ", " + place;
                Checks.same(what, got, isGood ? 1 : "IllegalArgumentException");
            }
        }
        Twins.argument("13 all steps leave no place", Towns::rich, t -> t.addRegion(2, 0, 23, 'f', 0, 23));
        Twins.argument("13 first -1", Towns::rich, t -> t.addRegion(2, -1, 3, 'c', 0, 5));
        Twins.argument("13 last 24", Towns::rich, t -> t.addRegion(2, 3, 24, 'c', 0, 0));
        Twins.argument("13 place 24", Towns::rich, t -> t.addRegion(2, 3, 5, 'w', 0, 24));
        Twins.argument("13 last below first", Towns::rich, t -> t.addRegion(2, 5, 4, 'f', 0, 9));
        Twins.argument("13 within", Towns::rich, t -> t.addRegion(2, 3, 5, 'f', 0, 4));
    }

    private static void promise13Numbers() {
        int[] numbers = {LEAST, -2, -1, 0, 4, 5, 14, MOST};
        for (int n : numbers) {
            boolean isBody = n >= 0 && n < 5;
            Checks.same("13 f with " + n, Twins.answer(() -> Towns.rich().addRegion(2, 0, 0, 'f', n, 1)), 1);
            Checks.same("13 c with " + n, Twins.answer(() -> Towns.rich().addRegion(2, 0, 0, 'c', n, 1)), 1);
            Checks.same("13 w with " + n, Twins.answer(() -> Towns.rich().addRegion(2, 0, 0, 'w', n, 1)),
                isBody ? 1 : "IndexOutOfBoundsException");
            if (!isBody) {
                Twins.index("13 no filter " + n, Towns::rich, t -> t.addRegion(2, 0, 0, 'w', n, 1));
            }
        }
        int[] bodies = {LEAST, -1, 5, 14, MOST};
        for (int n : bodies) {
            Twins.index("13 no body " + n, Towns::rich, t -> t.addRegion(n, 0, 0, 'f', 0, 1));
        }
        String letters = "fcwFCWegbdvx \0\uffff";
        for (int i = 0; i < letters.length(); i++) {
            char letter = letters.charAt(i);
            Checks.same("13 letter " + letter, Twins.answer(() -> Towns.rich().addRegion(2, 0, 0, letter, 0, 1)),
                i < 3 ? 1 : "IllegalArgumentException");
        }
        Checks.same("13 a filter that is the body itself", Towns.rich().addRegion(2, 0, 0, 'w', 2, 1), 1);
    }

    private static void promise13Order() {
        Twins.index("13 body, ahead of the letter", Towns::rich, t -> t.addRegion(5, 0, 0, 'q', 0, 1));
        Twins.index("13 body, ahead of the place", Towns::rich, t -> t.addRegion(5, 0, 0, 'f', 0, 0));
        Twins.index("13 filter, ahead of first", Towns::rich, t -> t.addRegion(2, -1, 0, 'w', 5, 1));
        Twins.index("13 filter, ahead of the place", Towns::rich, t -> t.addRegion(2, 0, 0, 'w', -1, 0));
        Twins.argument("13 letter that needs no filter", Towns::rich, t -> t.addRegion(2, 0, 0, 'q', 99, 1));
        Twins.index("13 body, ahead of four", Towns::fullOfBodies, t -> t.addRegion(14, 0, 0, 'f', 0, 1));
        Twins.index("13 filter, ahead of four", Towns::fullOfBodies, t -> t.addRegion(0, 0, 0, 'w', 14, 1));
        Twins.argument("13 letter, ahead of four", Towns::fullOfBodies, t -> t.addRegion(0, 0, 0, 'q', 0, 1));
        Twins.argument("13 place, ahead of four", Towns::fullOfBodies, t -> t.addRegion(0, 0, 0, 'f', 0, 0));
        Twins.argument("13 last, ahead of four", Towns::fullOfBodies, t -> t.addRegion(0, 1, 0, 'f', 0, 5));
    }

    private static void promise13Full() {
        Reifytown town = new Reifytown();
        town.addBody();
        town.addBody();
        for (int region = 1; region <= 4; region++) {
            Checks.same("13 region " + region, town.addRegion(1, 0, 23 - region, "fcwf".charAt(region - 1), 0, 23), region);
        }
        Checks.state("13 the fifth", () -> town.addRegion(1, 0, 0, 'c', -1, 1));
        Checks.same("13 the other body has none", town.addRegion(0, 0, 22, 'c', -1, 23), 1);
        Twins.state("13 the fifth of a town", Towns::fullOfBodies, t -> t.addRegion(0, 0, 0, 'f', 0, 1));
        Twins.state("13 the fifth with a filter", Towns::fullOfBodies, t -> t.addRegion(0, 0, 0, 'w', 13, 1));
    }

    private static void promise14Numbers() {
        int[] types = {LEAST, -2, -1, 9, 10, 60, MOST};
        for (int n : types) {
            Twins.index("14 type " + n, Towns::rich, t -> t.found(n, 2, 0));
            Twins.index("14 type, ahead of the name " + n, Towns::rich, t -> t.found(n, 2, 6));
        }
        int[] kinds = {LEAST, -2, -1, 9, 10, MOST};
        for (int n : kinds) {
            Twins.index("14 kind " + n, Towns::rich, t -> t.found(3, n, 0));
            Twins.index("14 kind, ahead of the name " + n, Towns::rich, t -> t.found(3, n, -1));
            Twins.index("14 kind, of int " + n, Towns::rich, t -> t.found(0, n, 0));
        }
        int[] names = {LEAST, -2, -1, 6, 7, 10, MOST};
        for (int n : names) {
            Twins.argument("14 name " + n, Towns::rich, t -> t.found(3, 2, n));
            Twins.argument("14 name, of int " + n, Towns::rich, t -> t.found(0, 0, n));
            Twins.argument("14 name, of an interface " + n, Towns::rich, t -> t.found(2, 0, n));
        }
        Reifytown town = Towns.rich();
        Checks.same("14 the last kind and type", town.found(8, 8, 5), -1);
        Checks.same("14 a class", town.found(3, 2, 0), 0);
        Checks.same("14 of n", town.found(4, 2, 1), 1);
        Checks.same("14 told", town.found(4, 1, 0), 1);
    }

    /** Six methods, each found by its name alone, of the greatest and the least kind. */
    private static void promise14Names() {
        Reifytown town = Towns.of("c", "i", "i", "i", "i", "i", "i", "i", "i", "c");
        town.addInterface(9, 8, -1);
        town.setParent(9, 0, -1);
        for (int body = 0; body < 14; body++) {
            town.addBody();
        }
        for (int name = 0; name < 6; name++) {
            town.addMethod(0, name, 'v', name);
            town.addMethod(9, name, 'o', 13 - name);
        }
        int top = town.type(0, -1);
        int low = town.type(9, -1);
        for (int name = 0; name < 6; name++) {
            Checks.same("14 top " + name, town.found(top, 0, name), name);
            Checks.same("14 overridden " + name, town.found(low, 0, name), 13 - name);
            Checks.same("14 its own " + name, town.found(low, 9, name), 13 - name);
            Checks.same("14 by the interface " + name, town.found(low, 8, name), 13 - name);
            Checks.same("14 by one it has not " + name, town.found(low, 7, name), -1);
        }
    }

    /** Slots in a row of ten classes: 'v' begins one, 'o' takes the nearest, 'n' takes none. */
    private static void promise14Slots() {
        String row = "vonovoonov";
        Reifytown town = Towns.of("c", "c", "c", "c", "c", "c", "c", "c", "c", "c");
        for (int kind = 0; kind < 10; kind++) {
            town.addBody();
            if (kind > 0) {
                town.setParent(kind, kind - 1, -1);
            }
        }
        // What stands below 'n' takes a slot above it, since 'n' is told last.
        for (int kind = 0; kind < 10; kind++) {
            if (row.charAt(kind) != 'n') {
                town.addMethod(kind, 0, row.charAt(kind), kind);
            }
        }
        town.addMethod(2, 0, 'n', 2);
        town.addMethod(7, 0, 'n', 7);
        int[] types = new int[10];
        for (int kind = 9; kind >= 0; kind--) {
            types[kind] = town.type(kind, -1);
        }
        int[] slots = {0, 0, -1, 0, 4, 4, 4, -1, 4, 9};
        for (int receiver = 0; receiver < 10; receiver++) {
            for (int kind = 0; kind < 10; kind++) {
                int due = -1;
                for (int at = kind <= receiver ? receiver : -1; at >= 0 && due < 0; at--) {
                    due = slots[kind] < 0 ? kind : slots[at] == slots[kind] ? at : -1;
                }
                Checks.same("14 of " + receiver + " through " + kind, town.found(types[receiver], kind, 0), due);
            }
        }
        Reifytown later = Towns.of("c", "c", "c");
        later.setParent(1, 0, -1);
        later.setParent(2, 1, -1);
        for (int body = 0; body < 3; body++) {
            later.addBody();
        }
        later.addMethod(0, 5, 'v', 0);
        later.addMethod(2, 5, 'o', 2);
        int low = later.type(2, -1);
        Checks.same("14 the slot of the top", later.found(low, 0, 5), 2);
        later.addMethod(1, 5, 'v', 1);
        Checks.same("14 the nearer slot", later.found(low, 1, 5), 2);
        Checks.same("14 no more the one of the top", later.found(low, 0, 5), 0);
    }

    /** A kind that the type is not below would find something, if it were asked. */
    private static void promise14NotBelow() {
        Reifytown town = Towns.of("i", "c", "c", "s", "s", "i", "c=-");
        town.addBody();
        town.addBody();
        town.setParent(2, 1, -1);
        town.addMethod(2, 0, 'n', 0);
        town.addMethod(1, 1, 'v', 1);
        town.addMethod(3, 0, 'v', 0);
        town.addMethod(4, 0, 'n', 0);
        town.addMethod(0, 2, 'd', 0);
        town.addMethod(6, 0, 'n', 0);
        int top = town.type(1, -1);
        int low = town.type(2, -1);
        int one = town.type(3, -1);
        int other = town.type(4, -1);
        int face = town.type(0, -1);
        int ofInt = town.type(6, 0);
        Checks.same("14 a class below it", town.found(top, 2, 0), -1);
        Checks.same("14 the class itself", town.found(low, 2, 0), 0);
        Checks.same("14 a class above it", town.found(low, 1, 1), 1);
        Checks.same("14 another structure", town.found(one, 4, 0), -1);
        Checks.same("14 a class beside it", town.found(other, 2, 0), -1);
        Checks.same("14 an interface that it has not", town.found(low, 0, 2), -1);
        Checks.same("14 an interface itself", town.found(face, 0, 2), -1);
        Checks.same("14 int", town.found(0, 0, 2), -1);
        Checks.same("14 int, a class", town.found(0, 4, 0), -1);
        Checks.same("14 object", town.found(1, 2, 0), -1);
        Checks.same("14 whatever its argument", town.found(ofInt, 6, 0), 0);
        Checks.same("14 a name without a method", town.found(low, 2, 5), -1);
        Checks.same("14 an interface without methods", town.found(low, 5, 0), -1);
    }

    /** Interfaces of interfaces, up to the last kind, and parents that have them, or only the method. */
    private static void promise14Interfaces() {
        Reifytown town = Towns.of("i", "i", "i", "c", "c", "c", "c", "i", "i", "s");
        for (int body = 0; body < 8; body++) {
            town.addBody();
        }
        town.addInterface(1, 0, -1);
        town.addInterface(2, 1, -1);
        town.addInterface(7, 2, -1);
        town.addInterface(8, 7, -1);
        town.addInterface(9, 8, -1);
        town.addInterface(4, 2, -1);
        town.addInterface(6, 1, -1);
        for (int kind = 4; kind < 7; kind++) {
            town.setParent(kind, kind - 1, -1);
        }
        town.addMethod(3, 0, 'v', 0);
        town.addMethod(5, 0, 'v', 1);
        town.addMethod(6, 0, 'o', 2);
        town.addMethod(9, 0, 'n', 3);
        town.addMethod(5, 1, 'n', 4);
        int low = town.type(6, -1);
        int middle = town.type(5, -1);
        int has = town.type(4, -1);
        int top = town.type(3, -1);
        int structure = town.type(9, -1);
        for (int face = 0; face < 3; face++) {
            Checks.same("14 of the top, not had", town.found(top, face, 0), -1);
            Checks.same("14 had, with a method above", town.found(has, face, 0), 0);
            Checks.same("14 another slot below does not count", town.found(middle, face, 0), 0);
            Checks.same("14 had again further down", town.found(low, face, 0), face < 2 ? 2 : 0);
            Checks.same("14 n of a parent that has it not as its own", town.found(middle, face, 1), -1);
            Checks.same("14 n through one that has it further down", town.found(low, face, 1), face < 2 ? 4 : -1);
            Checks.same("14 of a structure, through all", town.found(structure, face, 0), 3);
        }
        Checks.same("14 the nearest of a structure", town.found(structure, 8, 0), 3);
        town.tell(4, 0, 0, 5);
        Checks.same("14 told by a parent", town.found(middle, 0, 0), 5);
        Checks.same("14 a nearer kind decides", town.found(low, 0, 0), 2);
        town.tell(6, 0, 0, 6);
        Checks.same("14 told by the nearer kind", town.found(low, 0, 0), 6);
        Checks.same("14 not for another interface", town.found(low, 1, 0), 2);
        Checks.same("14 not through the class", town.found(low, 6, 0), 2);
        Checks.same("14 the parent's stays", town.found(has, 0, 0), 5);
    }

    /** The most special default decides, over all ways; one of two that are alike does not. */
    private static void promise14Defaults() {
        Reifytown town = Towns.of("i", "i", "i", "i", "i", "c", "c", "s", "i", "c");
        for (int body = 0; body < 8; body++) {
            town.addBody();
        }
        town.addInterface(1, 0, -1);
        town.addInterface(2, 0, -1);
        town.addInterface(3, 1, -1);
        town.addInterface(3, 2, -1);
        town.addInterface(4, 3, -1);
        town.addInterface(5, 1, -1);
        town.addInterface(6, 2, -1);
        town.setParent(6, 5, -1);
        town.addInterface(7, 4, -1);
        town.addInterface(8, 0, -1);
        town.addInterface(9, 8, -1);
        town.addInterface(9, 4, -1);
        int parent = town.type(5, -1);
        int child = town.type(6, -1);
        int structure = town.type(7, -1);
        int both = town.type(9, -1);
        Checks.same("14 none of all", town.found(structure, 0, 3), -1);
        town.addMethod(0, 3, 'a', -1);
        Checks.same("14 without a body", town.found(structure, 0, 3), -1);
        town.tell(1, 0, 3, 1);
        Checks.same("14 told above", town.found(structure, 0, 3), 1);
        Checks.same("14 told by the parent's interface", town.found(child, 0, 3), 1);
        town.tell(2, 0, 3, 2);
        Checks.same("14 the parent has one alone", town.found(parent, 0, 3), 1);
        Checks.same("14 the child has both", town.found(child, 0, 3), -1);
        Checks.same("14 the structure has both", town.found(structure, 0, 3), -1);
        town.tell(4, 0, 3, 4);
        Checks.same("14 one extends both", town.found(structure, 0, 3), 4);
        town.tell(8, 0, 3, 5);
        Checks.same("14 one that does not extend another", town.found(both, 0, 3), -1);
        Checks.same("14 it has nothing to do with others", town.found(structure, 0, 3), 4);
        town.tell(9, 0, 3, 6);
        Checks.same("14 the class decides", town.found(both, 0, 3), 6);
        Checks.same("14 by another interface there is none", town.found(both, 4, 3), -1);
        town.addMethod(4, 4, 'd', 7);
        Checks.same("14 a default of this interface", town.found(both, 4, 4), 7);
        Checks.same("14 is none of one that it extends", town.found(both, 0, 4), -1);
        Checks.same("14 nor found by the class", town.found(both, 9, 4), -1);
    }
}
