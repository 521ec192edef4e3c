/** Promises 10 to 15: walkers, what they are, as what they go, their clicks, how they face and go. */
public final class WalkerTest {
    public static void main(String[] args) {
        walkers();
        facts();
        as();
        habits();
        faces();
        goes();
        Due.end("WalkerTest");
    }

    private static void walkers() {
        ClickStreet s = new ClickStreet();
        s.thing(0, 9);
        Due.is("kind -1", s.walker(-1, 0, 0), Due.BEYOND);
        Due.is("kind 8", s.walker(8, 0, 0), Due.BEYOND);
        Due.is("cell -1", s.walker(0, -1, 0), Due.BEYOND);
        Due.is("cell 192", s.walker(0, 192, 0), Due.BEYOND);
        Due.is("side -1", s.walker(0, 0, -1), Due.BEYOND);
        Due.is("side 8", s.walker(0, 0, 8), Due.BEYOND);
        Due.is("where a thing is", s.walker(0, 9, 0), Due.STATE);
        Due.is("first", s.walker(0, 0, 7), 0);
        Due.is("where a walker is", s.walker(0, 0, 0), Due.STATE);
        for (int i = 1; i < 8; i++) {
            Due.is("more", s.walker(i, 190 - i, 0), i);
        }
        Due.is("the ninth", s.walker(0, 50, 0), Due.FULL);
        Due.is("STATE ahead of FULL", s.walker(0, 9, 0), Due.STATE);
        Due.is("how many", s.count(2), 8);
    }

    private static void facts() {
        int[] reach = {3, 12, 1, 6, 0, 6, 5, 10};
        int[] speed = {1, 1, 1, 1, 1, 1, 1, 2};
        int[] ears = {9, 9, 9, 9, 9, 9, 5, 9};
        ClickStreet s = new ClickStreet();
        for (int kind = 0; kind < 8; kind++) {
            s.walker(kind, 10 + kind, kind);
            Due.is("KIND", s.walkerIs(kind, 0), kind);
            Due.is("CELL", s.walkerIs(kind, 1), 10 + kind);
            Due.is("SIDE", s.walkerIs(kind, 2), kind);
            Due.is("PITCH", s.walkerIs(kind, 3), 5);
            Due.is("LOUDNESS", s.walkerIs(kind, 4), 60);
            Due.is("EVERY", s.walkerIs(kind, 5), 0);
            Due.is("GOES", s.walkerIs(kind, 6), 0);
            Due.is("BUMPS", s.walkerIs(kind, 7), 0);
            Due.is("CLICKS", s.walkerIs(kind, 8), 0);
            Due.is("REACH", s.walkerIs(kind, 9), reach[kind]);
            Due.is("SPEED", s.walkerIs(kind, 10), speed[kind]);
            Due.is("EARS", s.walkerIs(kind, 11), ears[kind]);
        }
        Due.is("what 12", s.walkerIs(0, 12), Due.BEYOND);
        Due.is("what -1", s.walkerIs(0, -1), Due.BEYOND);
        Due.is("walker 8", s.walkerIs(8, 0), Due.BEYOND);
        Due.is("walker -1", s.walkerIs(-1, 0), Due.BEYOND);
    }

    private static void as() {
        int[] above = {-1, 0, 0, 0, 0, 1, 3, 1};
        int[] reach = {3, 12, 1, 6, 0, 6, 5, 10};
        ClickStreet s = new ClickStreet();
        for (int kind = 0; kind < 8; kind++) {
            s.walker(kind, 10 + kind, 0);
            for (int as = 0; as < 8; as++) {
                boolean is = as == kind || as == 0 || as == above[kind];
                Due.is(kind + " as " + as, s.as(kind, as), is ? reach[kind] : Due.KIND);
            }
        }
        Due.is("kind 8", s.as(0, 8), Due.BEYOND);
        Due.is("kind -1", s.as(0, -1), Due.BEYOND);
        Due.is("walker 8", s.as(8, 0), Due.BEYOND);
        Due.is("walker -1", s.as(-1, 0), Due.BEYOND);
    }

    private static void habits() {
        ClickStreet s = new ClickStreet();
        s.walker(1, 5, 0);
        Due.is("most", s.habit(0, 9, 99, 30), 1);
        Due.is("PITCH", s.walkerIs(0, 3), 9);
        Due.is("LOUDNESS", s.walkerIs(0, 4), 99);
        Due.is("EVERY", s.walkerIs(0, 5), 30);
        Due.is("least", s.habit(0, 1, 1, 0), 1);
        Due.is("PITCH 0", s.habit(0, 0, 2, 2), Due.BEYOND);
        Due.is("PITCH 10", s.habit(0, 10, 2, 2), Due.BEYOND);
        Due.is("LOUDNESS 0", s.habit(0, 2, 0, 2), Due.BEYOND);
        Due.is("LOUDNESS 100", s.habit(0, 2, 100, 2), Due.BEYOND);
        Due.is("EVERY -1", s.habit(0, 2, 2, -1), Due.BEYOND);
        Due.is("EVERY 31", s.habit(0, 2, 2, 31), Due.BEYOND);
        Due.is("walker 1", s.habit(1, 2, 2, 2), Due.BEYOND);
        Due.is("PITCH stands", s.walkerIs(0, 3), 1);
        Due.is("LOUDNESS stands", s.walkerIs(0, 4), 1);
        Due.is("EVERY stands", s.walkerIs(0, 5), 0);
    }

    private static void faces() {
        ClickStreet s = new ClickStreet();
        s.walker(2, 5, 3);
        Due.is("that ahead", s.face(0, 7), 3);
        Due.is("that ahead", s.face(0, 0), 7);
        Due.is("SIDE 8", s.face(0, 8), Due.BEYOND);
        Due.is("SIDE -1", s.face(0, -1), Due.BEYOND);
        Due.is("walker 1", s.face(1, 0), Due.BEYOND);
        Due.is("SIDE now", s.walkerIs(0, 2), 0);
    }

    private static void goes() {
        ClickStreet s = new ClickStreet();
        s.walker(4, 85, 2);
        Due.is("not at first", s.goes(0, false), 0);
        s.tenths(1);
        Due.is("stands", s.walkerIs(0, 1), 85);
        Due.is("still not", s.goes(0, true), 0);
        Due.is("it does", s.walkerIs(0, 6), 1);
        s.tenths(1);
        Due.is("goes", s.walkerIs(0, 1), 86);
        Due.is("it did", s.goes(0, true), 1);
        Due.is("it did", s.goes(0, false), 1);
        s.tenths(1);
        Due.is("stands again", s.walkerIs(0, 1), 86);
        Due.is("walker 1", s.goes(1, true), Due.BEYOND);
        Due.is("walker -1", s.goes(-1, true), Due.BEYOND);
    }
}
