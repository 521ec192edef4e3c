/** Promises 1 to 9: a new object, things, kinds, what is where, rows of things, the air. */
public final class StreetTest {
    public static void main(String[] args) {
        newObject();
        things();
        goingThings();
        thingsMeet();
        awayThings();
        kinds();
        whatIsWhere();
        rows();
        air();
        Due.end("StreetTest");
    }

    private static void newObject() {
        ClickStreet s = new ClickStreet();
        for (int what = 0; what <= 8; what++) {
            Due.is("new: count(" + what + ")", s.count(what), 0);
        }
        for (int k = 1; k <= 6; k++) {
            Due.is("new: told(" + k + ")", s.told(k), 0);
        }
        for (int cell = 0; cell < 192; cell++) {
            Due.is("new: at(" + cell + ")", s.at(cell), -1);
        }
        for (int kind = 0; kind < 5; kind++) {
            Due.is("new: LOUD", s.kind(kind, 0, 50), 50);
            Due.is("new: SHARP", s.kind(kind, 1, 0), 0);
        }
        Due.is("new: NOISE", s.air(0, 5), 5);
        Due.is("new: MASK", s.air(1, 9), 9);
        Due.is("new: SNOW", s.air(2, 0), 0);
        Due.is("new: thingIs", s.thingIs(0, 0), Due.BEYOND);
        Due.is("new: walkerIs", s.walkerIs(0, 0), Due.BEYOND);
        Due.is("new: trace", s.trace(0), Due.NONE);
        Due.is("new: restore", s.restore(), Due.NONE);
        Due.is("new: put", s.put(0, 0, 1), Due.NONE);
        Due.is("new: learn", s.learn(0, 1, -1), Due.NONE);
    }

    private static void things() {
        ClickStreet s = new ClickStreet();
        Due.is("kind -1", s.thing(-1, 0), Due.BEYOND);
        Due.is("kind 5", s.thing(5, 0), Due.BEYOND);
        Due.is("cell -1", s.thing(0, -1), Due.BEYOND);
        Due.is("cell 192", s.thing(0, 192), Due.BEYOND);
        Due.is("first", s.thing(4, 0), 0);
        Due.is("last cell", s.thing(0, 191), 1);
        Due.is("where a thing is", s.thing(0, 0), Due.STATE);
        s.walker(0, 7, 0);
        Due.is("where a walker is", s.thing(0, 7), Due.STATE);
        for (int i = 2; i < 40; i++) {
            Due.is("more", s.thing(2, 20 + i), i);
        }
        Due.is("the 41st", s.thing(2, 100), Due.FULL);
        Due.is("STATE ahead of FULL", s.thing(2, 0), Due.STATE);
        Due.is("BEYOND ahead of STATE", s.thing(9, 0), Due.BEYOND);
        Due.is("its KIND", s.thingIs(0, 0), 4);
        Due.is("its CELL", s.thingIs(1, 1), 191);
        Due.is("SIDE at first", s.thingIs(0, 2), 0);
        Due.is("STEP at first", s.thingIs(0, 3), 0);
        Due.is("thing -1", s.thingIs(-1, 0), Due.BEYOND);
        Due.is("thing 40", s.thingIs(40, 0), Due.BEYOND);
        Due.is("what -1", s.thingIs(0, -1), Due.BEYOND);
        Due.is("what 4", s.thingIs(0, 4), Due.BEYOND);
        Due.is("away", s.away(5), 25);
        Due.is("away ones count", s.thing(2, 100), Due.FULL);
    }

    private static void goingThings() {
        ClickStreet s = new ClickStreet();
        s.thing(3, Due.cell(8, 8));
        s.thing(4, Due.cell(1, 0));
        s.thing(1, 50);
        Due.is("MAN goes", s.moves(0, 1, 2), 1);
        Due.is("BUS goes", s.moves(1, 6, 1), 1);
        Due.is("POLE", s.moves(2, 0, 0), Due.KIND);
        Due.is("POLE, STEP", s.moves(2, 0, 21), Due.BEYOND);
        Due.is("STEP 21", s.moves(0, 0, 21), Due.BEYOND);
        Due.is("STEP -1", s.moves(0, 0, -1), Due.BEYOND);
        Due.is("SIDE 8", s.moves(0, 8, 1), Due.BEYOND);
        Due.is("SIDE -1", s.moves(0, -1, 1), Due.BEYOND);
        Due.is("THING 3", s.moves(3, 0, 1), Due.BEYOND);
        Due.is("THING -1", s.moves(-1, 0, 1), Due.BEYOND);
        Due.is("its SIDE", s.thingIs(0, 2), 1);
        Due.is("its STEP", s.thingIs(0, 3), 2);
        s.tenths(1);
        Due.is("2 does not divide 1", s.thingIs(0, 1), Due.cell(8, 8));
        Due.is("BUS at the edge", s.thingIs(1, 1), 0);
        s.tenths(1);
        Due.is("2 divides 2", s.thingIs(0, 1), Due.cell(9, 7));
        Due.is("at", s.at(Due.cell(9, 7)), 0);
        Due.is("at, left", s.at(Due.cell(8, 8)), -1);
        Due.is("BUS stays and turns", s.thingIs(1, 1), 0);
        Due.is("BUS has turned", s.thingIs(1, 2), 2);
        s.tenths(1);
        Due.is("BUS goes back", s.thingIs(1, 1), 1);
        s.moves(1, 2, 0);
        s.tenths(20);
        Due.is("STEP 0 stands", s.thingIs(1, 1), 1);
        s.moves(1, 2, 20);
        s.tenths(16);
        Due.is("20 does not divide 39", s.thingIs(1, 1), 1);
        s.tenths(1);
        Due.is("20 divides 40", s.thingIs(1, 1), 2);
    }

    private static void thingsMeet() {
        ClickStreet s = new ClickStreet();
        s.thing(3, 20);
        s.thing(3, 22);
        s.walker(0, 25, 0);
        s.moves(0, 2, 1);
        s.moves(1, 6, 1);
        s.tenths(1);
        Due.is("by numbers: 0 comes first", s.thingIs(0, 1), 21);
        Due.is("by numbers: 1 is hindered", s.thingIs(1, 1), 22);
        Due.is("and turned", s.thingIs(1, 2), 2);
        s.tenths(2);
        Due.is("1 goes off", s.thingIs(1, 1), 24);
        s.tenths(1);
        Due.is("a walker hinders", s.thingIs(1, 1), 24);
        Due.is("turned again", s.thingIs(1, 2), 6);
    }

    private static void awayThings() {
        ClickStreet s = new ClickStreet();
        s.thing(3, 77);
        s.thing(0, 78);
        s.moves(0, 3, 1);
        Due.is("away", s.away(0), 77);
        Due.is("away twice", s.away(0), Due.STATE);
        Due.is("away 2", s.away(2), Due.BEYOND);
        Due.is("away -1", s.away(-1), Due.BEYOND);
        Due.is("CELL of one that is away", s.thingIs(0, 1), -1);
        Due.is("KIND of one that is away", s.thingIs(0, 0), 3);
        Due.is("moves one that is away", s.moves(0, 0, 1), Due.STATE);
        Due.is("at", s.at(77), -1);
        s.tenths(3);
        Due.is("stays away", s.thingIs(0, 1), -1);
        Due.is("things that are not away", s.count(1), 1);
        s.away(1);
        Due.is("moves: KIND ahead of STATE", s.moves(1, 0, 1), Due.KIND);
        Due.is("the CELL is FREE again", s.thing(1, 77), 2);
        Due.is("in CELL 0", s.thing(3, 0), 3);
        Due.is("CELL 0 is not away", s.moves(3, 5, 1), 1);
        s.tenths(1);
        Due.is("5 becomes 1", s.thingIs(3, 2), 1);
        Due.is("away from CELL 0", s.away(3), 0);
    }

    private static void kinds() {
        ClickStreet s = new ClickStreet();
        Due.is("LOUD", s.kind(4, 0, 99), 50);
        Due.is("LOUD was", s.kind(4, 0, 0), 99);
        Due.is("LOUD 0 was", s.kind(4, 0, 1), 0);
        Due.is("SHARP", s.kind(0, 1, 9), 0);
        Due.is("SHARP was", s.kind(0, 1, 0), 9);
        Due.is("of another KIND", s.kind(1, 1, 3), 0);
        Due.is("KIND 5", s.kind(5, 0, 1), Due.BEYOND);
        Due.is("KIND -1", s.kind(-1, 0, 1), Due.BEYOND);
        Due.is("what 2", s.kind(0, 2, 1), Due.BEYOND);
        Due.is("what -1", s.kind(0, -1, 1), Due.BEYOND);
        Due.is("LOUD 100", s.kind(0, 0, 100), Due.BEYOND);
        Due.is("LOUD -1", s.kind(0, 0, -1), Due.BEYOND);
        Due.is("SHARP 10", s.kind(0, 1, 10), Due.BEYOND);
        Due.is("SHARP -1", s.kind(0, 1, -1), Due.BEYOND);
    }

    private static void whatIsWhere() {
        ClickStreet s = new ClickStreet();
        s.thing(2, 3);
        s.walker(0, 4, 0);
        s.walker(1, 5, 0);
        Due.is("a thing", s.at(3), 0);
        Due.is("walker 0", s.at(4), 100);
        Due.is("walker 1", s.at(5), 101);
        Due.is("nothing", s.at(6), -1);
        Due.is("CELL -1", s.at(-1), Due.BEYOND);
        Due.is("CELL 192", s.at(192), Due.BEYOND);
    }

    private static void rows() {
        ClickStreet s = new ClickStreet();
        Due.is("SHEET -1", s.lays(-1, 0), Due.BEYOND);
        Due.is("SHEET 4", s.lays(4, 0), Due.BEYOND);
        Due.is("missing", s.lays(0, 0), Due.NONE);
        Due.is("y ahead of missing", s.lays(0, 12), Due.BEYOND);
        Due.is("y -1", s.lays(0, -1), Due.BEYOND);
        Due.sheet(s, 0, 16, 1);
        Due.is("16 bits", s.lays(0, 0), Due.KIND);
        s.sheet(0, 32, 17);
        Due.is("32 bits, ahead of 17 numbers", s.lays(0, 0), Due.KIND);
        s.sheet(0, 8, 17);
        Due.is("17 numbers", s.lays(0, 0), Due.STATE);
        Due.sheet(s, 0, 8, 5, 0, 1, 6, -1, 2, 257, 3, 4, 1, 1, 1, 1, 1, 1, 5);
        s.walker(0, Due.cell(0, 11), 0);
        s.thing(0, Due.cell(2, 11));
        Due.is("came", s.lays(0, 11), 11);
        Due.is("where a walker is", s.at(Due.cell(0, 11)), 100);
        Due.is("0 lays nothing", s.at(Due.cell(1, 11)), -1);
        Due.is("where a thing is", s.at(Due.cell(2, 11)), 0);
        Due.is("6 lays nothing", s.at(Due.cell(3, 11)), -1);
        Due.is("-1 lays nothing", s.at(Due.cell(4, 11)), -1);
        Due.is("the first that came", s.at(Due.cell(5, 11)), 1);
        Due.is("its KIND", s.thingIs(1, 0), 1);
        Due.is("257 is 1 in 8 bits", s.thingIs(2, 0), 0);
        Due.is("KIND 2", s.thingIs(3, 0), 2);
        Due.is("the last", s.at(191), 11);
        Due.is("KIND 4", s.thingIs(11, 0), 4);
        Due.sheet(s, 1, 8, 1, 1, 1, 1, 1, 1, 1, 1, 1, 1, 1, 1, 1, 1, 1, 1);
        Due.is("16 came", s.lays(1, 0), 16);
        Due.is("till there is no room", s.lays(1, 1), 12);
        Due.is("things", s.count(1), 40);
        Due.is("the last with room", s.at(Due.cell(11, 1)), 39);
        Due.is("no room", s.at(Due.cell(12, 1)), -1);
        Due.is("no room at all", s.lays(1, 2), 0);
    }

    private static void air() {
        ClickStreet s = new ClickStreet();
        Due.is("NOISE 99", s.air(0, 99), 5);
        Due.is("NOISE 0", s.air(0, 0), 99);
        Due.is("NOISE 100", s.air(0, 100), Due.BEYOND);
        Due.is("NOISE -1", s.air(0, -1), Due.BEYOND);
        Due.is("MASK 90", s.air(1, 90), 9);
        Due.is("MASK 91", s.air(1, 91), Due.BEYOND);
        Due.is("MASK -1", s.air(1, -1), Due.BEYOND);
        Due.is("MASK was", s.air(1, 0), 90);
        Due.is("SNOW", s.air(2, 1), 0);
        Due.is("SNOW was", s.air(2, 0), 1);
        Due.is("SNOW 2", s.air(2, 2), Due.BEYOND);
        Due.is("SNOW -1", s.air(2, -1), Due.BEYOND);
        Due.is("what 3", s.air(3, 0), Due.BEYOND);
        Due.is("what -1", s.air(-1, 0), Due.BEYOND);
        Due.is("NOISE stood", s.air(0, 1), 0);
    }
}
