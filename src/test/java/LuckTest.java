/** Promises 13 and 33 to 35: beyond luck by days of the week, streets, cheats. */
public final class LuckTest {
    private static final Checks C = new Checks("LuckTest");

    public static void main(String[] args) {
        beyond();
        missingOne();
        streets();
        cheat();
        greatest();
        C.end();
    }

    private static void odds(String call, OilHome x, int g, long above, long below, long both) {
        C.due(call + " above", x.beyond(g, 0), above);
        C.due(call + " below", x.beyond(g, 1), below);
        C.due(call + " both", x.beyond(g, 2), both);
    }

    private static void beyond() {
        OilHome x = new OilHome();
        x.kitchen(0, 0, 10, 100);
        x.now(399);
        odds("no loads", x, 6, 1, 1, 0);
        C.due("g -1", x.beyond(-1, 0), -1);
        C.due("g 7", x.beyond(7, 0), -1);
        C.due("what -1", x.beyond(0, -1), -1);
        C.due("what 3", x.beyond(0, 3), -1);
        // Five loads: days 7, 14, 21 miss, 28 and 30 don't.
        x.fetch(0, 7, 10, 0, 0, 399);
        x.fetch(0, 14, 10, 0, 0, 399);
        x.fetch(0, 22, 10, 0, 0, 399);
        x.fetch(0, 28, 60, 0, 0, 399);
        x.fetch(0, 30, 20, 0, 0, 399);
        // 3 of 5 are missing; on g 0 are 3, of them 2: (3*2 + 1) of 10.
        odds("g 0", x, 0, 7, 10, 2);
        // g 1: one load, missing: 3 of 5.
        odds("g 1", x, 1, 3, 5, 1);
        // g 2: one load, not missing: surely none or more.
        odds("g 2", x, 2, 1, 1, 0);
        odds("g 6", x, 6, 1, 1, 0);
    }

    private static void missingOne() {
        OilHome x = new OilHome();
        x.kitchen(0, 0, 10, 100);
        x.now(399);
        x.fetch(0, 1, 8, 0, 0, 1);
        C.due("one litre", x.missing(0), 1);
        x.fetch(0, 9, 72, 0, 0, 9);
        C.due("not one", x.missing(1), 0);
        odds("it is missing", x, 1, 1, 2, 1);
        C.due("it is missing", x.streets(0, 2), 1);
        C.due("surely: all are in it", x.streets(0, 1), 1);
    }

    private static void streets() {
        OilHome x = new OilHome();
        for (int k = 0; k < 3; k++) {
            x.kitchen(k, 0, 10, 100);
        }
        x.now(50);
        C.no("kitchen 3", x.street(3, 0));
        C.no("kitchen -1", x.street(-1, 0));
        C.no("street -1", x.street(0, -1));
        C.no("street 10", x.street(0, 10));
        C.yes("street 9", x.street(2, 9));
        C.due("kept", x.count(32), 9);
        x.fetch(0, 10, 0, 0, 0, 10);
        x.fetch(1, 10, 100, 0, 0, 10);
        x.fetch(2, 10, 0, 0, 0, 10);
        x.fetch(2, 20, 0, 0, 0, 20);
        C.due("street -1", x.streets(-1, 0), -1);
        C.due("street 10", x.streets(10, 0), -1);
        C.due("what -1", x.streets(0, -1), -1);
        C.due("what 3", x.streets(0, 3), -1);
        // 3 of 4 missing; in street 9 both of 2: 3 of 6.
        C.due("street 9 above", x.streets(9, 0), 1);
        C.due("street 9 below", x.streets(9, 1), 2);
        C.due("street 9 both", x.streets(9, 2), 2);
        // In street 0, where all are at first, 1 of 2: surely.
        C.due("street 0 above", x.streets(0, 0), 1);
        C.due("street 0 below", x.streets(0, 1), 1);
        C.due("street 0 both", x.streets(0, 2), 1);
        C.due("an empty street", x.streets(5, 0), 1);
        C.yes("0 moves to 9", x.street(0, 9));
        // All 3 of 3: C(3,3) of C(4,3).
        C.due("street 9 above", x.streets(9, 0), 1);
        C.due("street 9 below", x.streets(9, 1), 4);
        C.due("street 9 both", x.streets(9, 2), 3);
        C.yes("0 moves back", x.street(0, 0));
        C.due("street 9 both", x.streets(9, 2), 2);
        C.due("kept", x.count(30), 0);
        C.no("refused", x.street(2, 10));
        C.due("stays", x.count(32), 9);
    }

    private static void cheat() {
        OilHome x = new OilHome();
        x.kitchen(0, 0, 10, 100);
        x.kitchen(0, 0, 10, 100);
        C.due("no loads", x.cheat(1, 0, 1), 1);
        int[] water = {100, 200, 300, 400, 500, 600};
        for (int i = 0; i < 6; i++) {
            x.fetch(i / 3, 0, 5, water[i], 0, 0);
        }
        C.due("kitchen 2", x.cheat(2, 0, 0), -1);
        C.due("kitchen -1", x.cheat(-1, 0, 0), -1);
        C.due("water -1", x.cheat(0, -1, 0), -1);
        C.due("water 1001", x.cheat(0, 1001, 0), -1);
        C.due("what 3", x.cheat(0, 0, 3), -1);
        C.due("what -1", x.cheat(0, 0, -1), -1);
        // From 300 on 4 of 6; of kitchen 1 all 3: C(4,3) of C(6,3) = 4 of 20.
        C.due("300 above", x.cheat(1, 300, 0), 1);
        C.due("300 below", x.cheat(1, 300, 1), 5);
        C.due("300 both", x.cheat(1, 300, 2), 3);
        // From 301 on 3 of 6, all of kitchen 1: 1 of 20.
        C.due("301 below", x.cheat(1, 301, 1), 20);
        // Kitchen 0 has 1 of 4: surely.
        C.due("of 0 above", x.cheat(0, 300, 0), 1);
        C.due("of 0 below", x.cheat(0, 300, 1), 1);
        C.due("of 0 both", x.cheat(0, 300, 2), 1);
        C.due("1000", x.cheat(0, 1000, 2), 0);
        C.due("0", x.cheat(0, 0, 2), 3);
        C.due("0 above", x.cheat(0, 0, 0), 1);
        // A seventh load, dry, of kitchen 0: of 7, 3 from 400 on, all of the 3 of kitchen 1: 1 of 35.
        x.fetch(0, 0, 5, 0, 0, 0);
        C.due("400 above", x.cheat(1, 400, 0), 1);
        C.due("400 below", x.cheat(1, 400, 1), 35);
        // From 200 on 5 of 7; of kitchen 0 2 of 4: all but none of it, as 2 or more are sure.
        C.due("200 above", x.cheat(0, 200, 0), 1);
        C.due("200 below", x.cheat(0, 200, 1), 1);
        C.due("200 of 1 below: C(5,3) of C(7,3)", x.cheat(1, 200, 1), 7);
        C.due("200 of 1 above", x.cheat(1, 200, 0), 2);
    }

    /** 60 loads, 30 of them wet and all of one kitchen: the greatest number below the line. */
    private static void greatest() {
        OilHome x = new OilHome();
        x.kitchen(0, 0, 10, 100);
        x.kitchen(0, 0, 10, 100);
        for (int i = 0; i < 60; i++) {
            x.fetch(i % 2, 0, 5, i % 2, 0, 0);
        }
        C.due("above", x.cheat(1, 1, 0), 1);
        C.due("below", x.cheat(1, 1, 1), 118264581564861424L);
        C.due("both", x.cheat(1, 1, 2), 30);
    }
}
