/** Towns that the tests of the bounds begin with; each call makes the same one anew. */
final class Towns {
    private Towns() {
    }

    /** A town with kinds, each told by its letter and, if it has a parameter, its variance and limit. */
    static Reifytown of(String... kinds) {
        Reifytown town = new Reifytown();
        for (String kind : kinds) {
            add(town, kind);
        }
        return town;
    }

    static int add(Reifytown town, String kind) {
        boolean hasParameter = kind.length() > 1;
        char variance = hasParameter ? kind.charAt(1) : '=';
        return town.addKind(kind.charAt(0), hasParameter, variance, hasParameter ? kind.charAt(2) : '-');
    }

    /** Kinds of all letters with types, methods and statics that are made ready; its last run returned the number 9. */
    static Reifytown rich() {
        Reifytown town = of("i+-", "i", "c=-", "c", "s=v", "i", "c=r", "c", "s");
        town.setParent(3, 2, 0);
        town.addInterface(3, 0, 1);
        town.addInterface(3, 1, -1);
        town.addInterface(4, 1, -1);
        town.addInterface(5, 1, -1);
        town.addInterface(6, 0, -2);
        town.addInterface(6, 5, -1);
        town.type(0, 1);
        town.type(2, 0);
        town.type(3, -1);
        town.type(4, 0);
        town.type(6, 4);
        town.type(1, -1);
        town.type(8, -1);
        Checks.body(town, "r 1");
        Checks.body(town, "x 1", "r 5");
        Checks.body(town, "s 1 4 1", "S 2 4 0", "N 3 4", "C 4 3 20 1", "B 5 1", "p 2", "p 4", "+ 2 2 4", "r 2");
        Checks.body(town, "= 2 5", "s 2 4 0");
        Checks.body(town);
        town.addRegion(1, 0, 0, 'c', 7, 1);
        town.addMethod(2, 0, 'v', 0);
        town.addMethod(2, 1, 'n', 1);
        town.addMethod(3, 0, 'o', 0);
        town.addMethod(1, 0, 'a', -1);
        town.addMethod(5, 1, 'd', 0);
        town.tell(3, 1, 0, 1);
        town.tell(5, 1, 1, 4);
        town.setReady(3, 3);
        town.run(2, 4);
        return town;
    }

    /** A town with 10 kinds: interfaces, classes that have three of them, and one that has none. */
    static Reifytown fullOfKinds() {
        Reifytown town = of("i", "i", "i=-", "i", "c", "c=-", "c=r", "c", "s", "i");
        for (int other = 0; other < 3; other++) {
            town.addInterface(4, other, other == 2 ? 0 : -1);
            town.addInterface(9, other, other == 2 ? 1 : -1);
        }
        town.setParent(7, 4, -1);
        return town;
    }

    /** A town with 60 types, the last one of kind 1 with the argument 28; the classes 0 and 3 have none. */
    static Reifytown fullOfTypes() {
        Reifytown town = of("c", "c=-", "c=-", "c=r", "s");
        town.type(4, -1);
        for (int argument = 0; town.types() < 60; argument++) {
            town.type(1, argument);
            if (town.types() < 60) {
                town.type(2, argument);
            }
        }
        return town;
    }

    /** A town with 14 bodies: the first one has 24 steps and 4 regions; the last run ended with the throw of 3. */
    static Reifytown fullOfBodies() {
        Reifytown town = of("c", "i");
        for (int body = 0; body < 14; body++) {
            town.addBody();
        }
        for (int step = 0; step < 24; step++) {
            town.addStep(0, step == 22 ? 'x' : 'p', 1, 0, 0, 0);
        }
        for (int region = 0; region < 4; region++) {
            town.addRegion(0, region, region + 1, 'f', 0, 23);
        }
        town.addMethod(0, 0, 'v', 13);
        town.run(0, 3);
        return town;
    }
}
