/** All that can be asked of a house without changing it, as one text: two houses with like texts are in like states. */
final class Look {
    private final CarryHouse house;
    private final StringBuilder told = new StringBuilder();

    private Look(CarryHouse house) {
        this.house = house;
    }

    static String at(CarryHouse house) {
        Look look = new Look(house);
        look.counts();
        look.sets();
        look.members();
        look.options();
        look.votes();
        return look.told.toString();
    }

    private void note(long answer) {
        told.append(answer).append(' ');
    }

    private void counts() {
        for (int what = 0; what < 5; what++) {
            note(house.count(what));
        }
        note(house.fault());
    }

    private void sets() {
        int sets = 1 << house.count(1);
        for (int set = 0; set < sets; set++) {
            note(house.carries(set, house.count(0)));
            note(house.carries(set, 999));
        }
        for (int kind = 0; kind < 8; kind++) {
            note(house.many(kind));
            note(house.setAt(kind, 0));
        }
        note(house.setAt(1, 1));
        note(house.setAt(2, 1));
    }

    private void members() {
        int n = house.count(1);
        for (int m = 0; m < n; m++) {
            note(house.stronger(0, m));
            note(house.turns(m));
            note(house.ally(m));
            for (int way = 0; way < 3; way++) {
                note(house.share(m, way, 0));
                note(house.share(m, way, 1));
            }
        }
        for (int m = 0; m <= 12; m++) {
            note(house.weight(m));
        }
        note(house.chance(3));
    }

    private void options() {
        for (int x = 0; x < 7; x++) {
            for (int y = 0; y < 7; y++) {
                note(house.beats(x, y));
            }
            note(house.rowAt(x));
        }
        note(house.free());
        note(house.top());
    }

    private void votes() {
        int today = house.count(0);
        int sets = 1 << house.count(1);
        for (int set = 0; set < sets; set++) {
            note(house.sure(set, today));
        }
        note(house.unfit(today));
        note(house.unfit(today - 1));
        note(house.open(today));
        note(house.open(today - 1));
    }
}
