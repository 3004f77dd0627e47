/** All that can be asked of an object, told in one row, so that two objects can be held against each other. */
final class Look {
    private Look() {
    }

    /** Leaves the object as it is; some 170 calls. */
    static String at(HearsaySeeds x) {
        StringBuilder all = new StringBuilder();
        county(x, all);
        for (int slot = 0; slot < 5; slot++) {
            all.append("\nslot ").append(slot).append(':');
            add(all, x.ask(slot, 0), x.ask(slot, 3), x.rest(slot, 1000003));
            add(all, x.item(slot, 0), x.item(slot, 1), x.item(slot, 2));
        }
        return all.toString();
    }

    /** Uses up sheets, numbers that wait, the tape and all that is not in the image; some 330 calls. */
    static String whole(HearsaySeeds x) {
        StringBuilder all = new StringBuilder(at(x));
        for (int sheet = 0; sheet < 4; sheet++) {
            all.append("\nsheet ").append(sheet).append(':');
            add(all, x.copy(sheet, 24, sheet, 24, 0), x.lay(4, 2, sheet));
            for (int place = 0; place < 7; place++) {
                add(all, x.item(4, place));
            }
            x.lay(4, 0, 0);
        }
        all.append("\ncheck:");
        add(all, x.check(30));
        all.append("\nimage:");
        add(all, x.back());
        county(x, all);
        all.append("\ntape:");
        add(all, x.text(), x.fee());
        return all.toString();
    }

    private static void county(HearsaySeeds x, StringBuilder all) {
        all.append("\ncounts:");
        for (int what = 0; what < 9; what++) {
            add(all, x.count(what));
        }
        for (int key = 0; key < 3; key++) {
            add(all, x.why(key));
        }
        add(all, x.fee());
        for (int field = 0; field < 6; field++) {
            add(all, x.field(field, 0), x.field(field, 1));
        }
        for (int one = 0; one < 8; one++) {
            all.append("\none ").append(one).append(':');
            for (int what = 0; what < 4; what++) {
                add(all, x.told(one, what));
            }
            for (int field = 0; field < 6; field++) {
                add(all, x.thought(one, field));
            }
        }
    }

    private static void add(StringBuilder all, int... answers) {
        for (int answer : answers) {
            all.append(' ').append(answer);
        }
    }
}
