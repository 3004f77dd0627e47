/**
 * A county in which a field grows what the neighbours think was sown there.
 * The document of the project numbers what each call promises.
 */
public final class HearsaySeeds {
    public static final int BAD = -1000000001, NO = -1000000002, FULL = -1000000003, NONE = -1000000005,
            NOTHING = -1000000011, KIND = -1000000012, INDEX = -1000000013, SIZE = -1000000014;

    private static final int FIELDS = 6, MOST_CROP = 9, MOST_PEOPLE = 8, PLACES = 8, MOST_TRUST = 9, MOST_SURE = 99;
    private static final int MOST_WEEK = 9999, MOST_FIRST = 200;
    private static final int MOST_TEXTS = 14, TAPE_BYTES = 96, FAULT_BASE = -100;
    private static final int SHEETS = 4, ROW_PLACES = 24, MOST_FLOAT = 99999, SLOTS = 5, MOST_WAITING = 60;

    private static final int NEIGHBOUR = 0, GOSSIP = 1, EXPERT = 2, LIAR = 3, TRADER = 4, CHILD = 5, KINDS = 6;
    /** The kind right above each kind; -1 above NEIGHBOUR. */
    private static final int[] ABOVE = {-1, 0, 0, 1, 2, 0};
    /** What each kind WEIGHS, worked out from the kind above it: 2, 2 - 1, 2 + 3, 1 * 2 + 1, 5 - 1, 1. */
    private static final int[] WEIGHS = {2, 1, 5, 3, 4, 1};

    private static final int WANT = 0, FEE = 1, FINE = 2, KEYS = 3;
    private static final int NAME_T = 0, NAME_N = 1, NAME_S = 2, NAME_V = 3, NAME_W = 4, NAME_G = 5, NAMES = 6;

    private static final int SHORTS = 0, FLOATS = 1, MISSING = -1;
    private static final int HOLDS_NOTHING = 0, HOLDS_PERSON = 1, HOLDS_SHEET = 2, HOLDS_NUMBER = 3;

    private final Laws laws;
    private final Reader reader;
    private final County now;
    private final County image;
    /** A copy on which what will be is tried out, so that nothing changes. */
    private final County trial;
    private boolean hasImage;
    private final Sheet[] sheets;
    private final Slot[] slots;
    private final int[] waiting;
    private int waits;
    /** How far each field is from a sheet, while like() adds it up. */
    private final int[] apart;

    public HearsaySeeds() {
        laws = new Laws();
        reader = new Reader();
        now = new County(laws);
        image = new County(laws);
        trial = new County(laws);
        sheets = new Sheet[SHEETS];
        for (int i = 0; i < SHEETS; i++) {
            sheets[i] = new Sheet();
        }
        slots = new Slot[SLOTS];
        for (int i = 0; i < SLOTS; i++) {
            slots[i] = new Slot();
        }
        waiting = new int[MOST_WAITING];
        apart = new int[FIELDS];
    }

    // ---- people

    public int person(int kind, int place, int trust) {
        if (noKind(kind) || outside(place, 0, PLACES - 1) || outside(trust, 0, MOST_TRUST)) {
            return BAD;
        }
        if (now.people >= MOST_PEOPLE) {
            return FULL;
        }
        now.settle(kind, place, trust);
        return now.people - 1;
    }

    public int told(int person, int what) {
        if (noPerson(person)) {
            return BAD;
        }
        switch (what) {
            case 0: return now.kind[person];
            case 1: return now.place[person];
            case 2: return now.trust[person];
            case 3: return now.sure[person];
            case 4: return WEIGHS[now.kind[person]];
            case 5: return now.fieldsThoughtOf(person);
            case 6: return now.hearersOf(person);
            default: return BAD;
        }
    }

    public int as(int person, int kind) {
        if (noPerson(person) || noKind(kind)) {
            return BAD;
        }
        return isOf(now.kind[person], kind) ? now.sure[person] : KIND;
    }

    public int turns(int person, int kind) {
        if (noPerson(person) || noKind(kind)) {
            return BAD;
        }
        int was = now.kind[person];
        now.kind[person] = kind;
        return was;
    }

    public int set(int person, int what, int v) {
        if (noPerson(person)) {
            return BAD;
        }
        switch (what) {
            case 1: return replaced(now.place, person, v, PLACES - 1);
            case 2: return replaced(now.trust, person, v, MOST_TRUST);
            case 3: return replaced(now.sure, person, v, MOST_SURE);
            default: return BAD;
        }
    }

    public int thought(int person, int field) {
        if (noPerson(person) || noField(field)) {
            return BAD;
        }
        return now.thoughtOf(person, field);
    }

    public int lets(int person, int field, int crop) {
        if (noPerson(person) || noField(field) || outside(crop, 0, MOST_CROP)) {
            return BAD;
        }
        int was = now.thoughtOf(person, field);
        now.think(person, field, crop);
        return was;
    }

    public int says(int person, int field) {
        if (noPerson(person) || noField(field)) {
            return BAD;
        }
        return now.wordOf(person, field);
    }

    public int heeds(int person, int field, int crop) {
        if (noPerson(person) || noField(field) || outside(crop, 1, MOST_CROP)) {
            return BAD;
        }
        return now.heedOf(person, field, crop);
    }

    public int sow(int field, int crop) {
        if (noField(field) || outside(crop, 0, MOST_CROP)) {
            return BAD;
        }
        int was = now.sown[field];
        now.sown[field] = crop;
        return was;
    }

    public int field(int field, int what) {
        if (noField(field)) {
            return BAD;
        }
        int leading = now.firstCrop(field);
        switch (what) {
            case 0: return now.sown[field];
            case 1: return now.grew[field];
            case 2: return leading;
            case 3: return now.votesFor(field, leading);
            case 4: return now.believersOf(field, leading);
            default: return BAD;
        }
    }

    public int votes(int field, int crop) {
        if (noField(field) || outside(crop, 1, MOST_CROP)) {
            return BAD;
        }
        return now.votesFor(field, crop);
    }

    public int deal(int n) {
        if (outside(n, 1, MOST_PEOPLE)) {
            return BAD;
        }
        int come = Math.min(n, MOST_PEOPLE - now.people);
        for (int i = 0; i < come; i++) {
            now.settleByLot();
        }
        return come;
    }

    public int seed(int v) {
        int was = now.z;
        now.z = v;
        return was;
    }

    // ---- weeks

    public int weeks(int n) {
        if (outside(n, 1, 100)) {
            return BAD;
        }
        int before = now.weight;
        now.pass(Math.min(n, MOST_WEEK - now.week));
        return now.weight - before;
    }

    public int county(int what) {
        switch (what) {
            case 0: return now.weight;
            case 1: return now.wrong;
            case 2: return now.changed;
            case 3: return now.sureOfAll();
            case 4: return now.agreed();
            default: return BAD;
        }
    }

    // ---- what will be

    public int behind(int n, int what) {
        if (outside(n, 0, 100) || outside(what, 0, 2 + FIELDS)) {
            return BAD;
        }
        trial.takeOver(now);
        trial.pass(n);
        switch (what) {
            case 0: return trial.weight;
            case 1: return trial.wrong;
            case 2: return trial.changed;
            default: return trial.grew[what - 3];
        }
    }

    public int first(int field, int crop) {
        if (noField(field) || outside(crop, 0, MOST_CROP)) {
            return BAD;
        }
        trial.takeOver(now);
        for (int k = 0; k <= MOST_FIRST; k++) {
            if (trial.grew[field] == crop) {
                return k;
            }
            trial.pass(1);
        }
        return NONE;
    }

    public int ear(int field, int crop, int n, int what) {
        if (noField(field) || outside(crop, 1, MOST_CROP) || outside(n, 0, 60) || outside(what, 0, 1)) {
            return BAD;
        }
        if (now.people == 0) {
            return NONE;
        }
        int best = 0;
        int most = -1;
        for (int one = 0; one < now.people; one++) {
            tryTelling(1 << one, field, crop);
            trial.pass(n);
            int got = trial.votesFor(field, crop);
            if (got > most) {
                best = one;
                most = got;
            }
        }
        return what == 0 ? best : most;
    }

    public int fewest(int field, int crop, int n) {
        if (noField(field) || outside(crop, 1, MOST_CROP) || outside(n, 0, 12)) {
            return BAD;
        }
        int sets = 1 << now.people;
        for (int size = 0; size <= now.people; size++) {
            for (int group = 0; group < sets; group++) {
                if (Integer.bitCount(group) == size) {
                    tryTelling(group, field, crop);
                    trial.pass(n);
                    if (trial.firstCrop(field) == crop) {
                        return group;
                    }
                }
            }
        }
        return NONE;
    }

    public int house(int person, int n, int what) {
        if (noPerson(person) || outside(n, 1, 60) || outside(what, 0, 1)) {
            return BAD;
        }
        int best = 0;
        int most = 0;
        for (int place = 0; place < PLACES; place++) {
            trial.takeOver(now);
            trial.place[person] = place;
            trial.pass(n);
            if (place == 0 || trial.weight > most) {
                best = place;
                most = trial.weight;
            }
        }
        return what == 0 ? best : most;
    }

    public int becomes(int person, int n, int what) {
        if (noPerson(person) || outside(n, 1, 60) || outside(what, 0, 1)) {
            return BAD;
        }
        int best = NEIGHBOUR;
        int least = 0;
        for (int kind = NEIGHBOUR; kind < KINDS; kind++) {
            trial.takeOver(now);
            trial.kind[person] = kind;
            trial.pass(n);
            if (kind == NEIGHBOUR || trial.wrong < least) {
                best = kind;
                least = trial.wrong;
            }
        }
        return what == 0 ? best : least;
    }

    public int like(int sheet, int what) {
        if (noSheet(sheet) || outside(what, 0, 1)) {
            return BAD;
        }
        Sheet row = sheets[sheet];
        if (row.sort == MISSING) {
            return NOTHING;
        }
        for (int field = 0; field < FIELDS; field++) {
            apart[field] = 0;
        }
        trial.takeOver(now);
        for (int k = 0; k < row.length; k++) {
            if (row.hasNumber(k)) {
                addDifferences(row.places[k]);
            }
            trial.pass(1);
        }
        int best = 0;
        for (int field = 1; field < FIELDS; field++) {
            if (apart[field] < apart[best]) {
                best = field;
            }
        }
        return what == 0 ? best : apart[best];
    }

    public int fee() {
        int text = now.latest[FEE];
        if (text < 0) {
            return now.weight;
        }
        laws.names[NAME_W] = now.weight;
        laws.names[NAME_G] = now.wrong;
        return laws.given(text);
    }

    public int fine(int person) {
        if (noPerson(person)) {
            return BAD;
        }
        int text = now.latest[FINE];
        if (text < 0) {
            return now.sure[person];
        }
        laws.names[NAME_T] = now.trust[person];
        laws.names[NAME_S] = now.sure[person];
        return laws.given(text);
    }

    // ---- texts

    public int feed(int a, int b, int c) {
        if (reader.taped + 12 > TAPE_BYTES) {
            return FULL;
        }
        reader.take(a);
        reader.take(b);
        reader.take(c);
        return reader.taped;
    }

    public int trim(int n) {
        if (outside(n, 0, reader.taped)) {
            return BAD;
        }
        reader.taped = n;
        return n;
    }

    public int text() {
        int fault = reader.faultOnTape();
        reader.taped = 0;
        if (fault >= 0) {
            return FAULT_BASE - fault;
        }
        int number = now.texts;
        if (number >= MOST_TEXTS) {
            return FULL;
        }
        laws.texts[number].takeOver(reader.draft);
        now.latest[reader.draft.key] = number;
        now.texts = number + 1;
        return number;
    }

    public int textTold(int text, int what) {
        if (outside(text, 0, now.texts - 1)) {
            return BAD;
        }
        switch (what) {
            case 0: return laws.texts[text].key;
            case 1: return laws.texts[text].leaves;
            default: return BAD;
        }
    }

    public int why(int key) {
        if (outside(key, 0, KEYS - 1)) {
            return BAD;
        }
        return now.latest[key] < 0 ? NONE : now.latest[key];
    }

    // ---- sheets, slots

    public int sheet(int sheet, int sort, int n) {
        if (noSheet(sheet) || outside(sort, MISSING, FLOATS)) {
            return BAD;
        }
        if (sort == MISSING) {
            sheets[sheet].begin(MISSING, 0);
            return 0;
        }
        if (n > ROW_PLACES) {
            return BAD;
        }
        if (n < 0) {
            return SIZE;
        }
        sheets[sheet].begin(sort, n);
        return n;
    }

    public int mark(int sheet, int place, int v) {
        if (noSheet(sheet)) {
            return BAD;
        }
        Sheet row = sheets[sheet];
        if (row.sort == MISSING) {
            return NOTHING;
        }
        if (outside(place, 0, row.length - 1)) {
            return INDEX;
        }
        if (row.sort == SHORTS) {
            if (v == NONE) {
                return KIND;
            }
            row.places[place] = (short) v;
            return 1;
        }
        if (v != NONE && outside(v, -MOST_FLOAT, MOST_FLOAT)) {
            return BAD;
        }
        row.places[place] = v;
        return 1;
    }

    public int pour(int sheet) {
        if (noSheet(sheet)) {
            return BAD;
        }
        Sheet row = sheets[sheet];
        if (row.sort == MISSING) {
            return NOTHING;
        }
        int otherwise = 0;
        for (int field = 0; field < FIELDS && field < row.length; field++) {
            if (row.hasNumber(field)) {
                int crop = within(row.places[field], 0, MOST_CROP);
                if (crop != now.sown[field]) {
                    otherwise++;
                }
                now.sown[field] = crop;
            }
        }
        return otherwise;
    }

    public int reads(int sheet) {
        if (noSheet(sheet)) {
            return BAD;
        }
        Sheet row = sheets[sheet];
        if (row.sort == MISSING) {
            return NOTHING;
        }
        for (int i = 0; i < row.length; i++) {
            if (row.hasNumber(i) && (i >= FIELDS || row.places[i] != now.grew[i])) {
                return i;
            }
        }
        return NONE;
    }

    public int copy(int from, int place, int to, int at, int many) {
        if (noSheet(from) || noSheet(to)) {
            return BAD;
        }
        Sheet source = sheets[from];
        Sheet target = sheets[to];
        if (source.sort == MISSING || target.sort == MISSING) {
            return NOTHING;
        }
        if (source.sort != target.sort) {
            return KIND;
        }
        if (source.lacks(place, many) || target.lacks(at, many)) {
            return INDEX;
        }
        System.arraycopy(source.places, place, target.places, at, many);
        return many;
    }

    public int lay(int slot, int thing, int k) {
        if (noSlot(slot) || outside(thing, HOLDS_NOTHING, HOLDS_NUMBER)) {
            return BAD;
        }
        if (thing == HOLDS_PERSON && noPerson(k) || thing == HOLDS_SHEET && noSheet(k)) {
            return BAD;
        }
        if (thing == HOLDS_SHEET && sheets[k].sort == MISSING) {
            return NOTHING;
        }
        Slot holder = slots[slot];
        int held = holder.thing;
        holder.thing = thing;
        if (thing == HOLDS_PERSON) {
            holder.kind = now.kind[k];
        } else if (thing == HOLDS_SHEET) {
            holder.row.takeOver(sheets[k]);
        } else {
            holder.number = k;
        }
        return held;
    }

    public int ask(int slot, int kind) {
        if (noSlot(slot) || noKind(kind)) {
            return BAD;
        }
        Slot holder = slots[slot];
        if (holder.thing == HOLDS_NOTHING) {
            return NOTHING;
        }
        if (holder.thing != HOLDS_PERSON || !isOf(holder.kind, kind)) {
            return KIND;
        }
        return WEIGHS[holder.kind];
    }

    public int item(int slot, int place) {
        if (noSlot(slot)) {
            return BAD;
        }
        Slot holder = slots[slot];
        if (holder.thing == HOLDS_NOTHING) {
            return NOTHING;
        }
        if (holder.thing != HOLDS_SHEET) {
            return KIND;
        }
        if (outside(place, 0, holder.row.length - 1)) {
            return INDEX;
        }
        return holder.row.hasNumber(place) ? holder.row.places[place] : KIND;
    }

    public int rest(int slot, int n) {
        if (noSlot(slot)) {
            return BAD;
        }
        Slot holder = slots[slot];
        if (holder.thing == HOLDS_NOTHING) {
            return NOTHING;
        }
        if (holder.thing != HOLDS_NUMBER) {
            return KIND;
        }
        return n == 0 ? NO : holder.number % n;
    }

    // ---- rows, images

    public int tell(int v) {
        if (waits >= MOST_WAITING) {
            return FULL;
        }
        waiting[waits] = v;
        waits++;
        return waits;
    }

    public int check(int n) {
        int told = waits;
        waits = 0;
        if (outside(n, 1, 30)) {
            return BAD;
        }
        if (!hasImage) {
            return NO;
        }
        int due = 2 * Math.min(n, MOST_WEEK - image.week);
        trial.takeOver(image);
        for (int i = 0; i < told && i < due; i++) {
            if (i % 2 == 0) {
                trial.pass(1);
            }
            int right = i % 2 == 0 ? trial.weight : trial.changed;
            if (waiting[i] != right) {
                return 1 + i;
            }
        }
        return told == due ? 0 : 1 + Math.min(told, due);
    }

    public int keep() {
        image.takeOver(now);
        hasImage = true;
        return now.people;
    }

    public int back() {
        if (!hasImage) {
            return NO;
        }
        now.takeOver(image);
        return now.people;
    }

    public int count(int what) {
        switch (what) {
            case 0: return now.people;
            case 1: return now.week;
            case 2: return now.weight;
            case 3: return now.wrong;
            case 4: return now.changed;
            case 5: return now.texts;
            case 6: return waits;
            case 7: return reader.taped;
            case 8: return now.z;
            default: return BAD;
        }
    }

    // ---- what the calls share

    private static boolean outside(int v, int least, int most) {
        return v < least || v > most;
    }

    private static int within(int v, int least, int most) {
        return Math.max(least, Math.min(most, v));
    }

    private static boolean noKind(int kind) {
        return outside(kind, 0, KINDS - 1);
    }

    private static boolean noField(int field) {
        return outside(field, 0, FIELDS - 1);
    }

    private static boolean noSheet(int sheet) {
        return outside(sheet, 0, SHEETS - 1);
    }

    private static boolean noSlot(int slot) {
        return outside(slot, 0, SLOTS - 1);
    }

    private boolean noPerson(int person) {
        return outside(person, 0, now.people - 1);
    }

    private static boolean isOf(int kind, int asked) {
        int k = kind;
        for (int step = 0; step < KINDS && k >= 0; step++) {
            if (k == asked) {
                return true;
            }
            k = ABOVE[k];
        }
        return false;
    }

    private static int replaced(int[] row, int person, int v, int most) {
        if (outside(v, 0, most)) {
            return BAD;
        }
        int was = row[person];
        row[person] = v;
        return was;
    }

    private void tryTelling(int group, int field, int crop) {
        trial.takeOver(now);
        for (int one = 0; one < now.people; one++) {
            if ((group >> one & 1) == 1) {
                trial.think(one, field, crop);
                trial.sure[one] = MOST_SURE;
            }
        }
    }

    private void addDifferences(int number) {
        for (int field = 0; field < FIELDS; field++) {
            apart[field] += Math.abs(trial.firstCrop(field) - number);
        }
    }

    /** All that an image keeps; three of them serve: as it is, as it was kept, and as it might be. */
    private static final class County {
        final Laws laws;
        int people;
        final int[] kind = new int[MOST_PEOPLE];
        final int[] place = new int[MOST_PEOPLE];
        final int[] trust = new int[MOST_PEOPLE];
        final int[] sure = new int[MOST_PEOPLE];
        /** What one thinks of each field, person by person. */
        final int[] thoughts = new int[MOST_PEOPLE * FIELDS];
        final int[] sown = new int[FIELDS];
        final int[] grew = new int[FIELDS];
        int weight;
        int wrong;
        int changed;
        int week;
        int z = 1;
        /** An image's texts stand ahead of those told since, so how many there are is all that it need keep of them. */
        int texts;
        /** The text that counts for each key; -1: none. */
        final int[] latest = {-1, -1, -1};

        County(Laws laws) {
            this.laws = laws;
        }

        void takeOver(County other) {
            people = other.people;
            System.arraycopy(other.kind, 0, kind, 0, MOST_PEOPLE);
            System.arraycopy(other.place, 0, place, 0, MOST_PEOPLE);
            System.arraycopy(other.trust, 0, trust, 0, MOST_PEOPLE);
            System.arraycopy(other.sure, 0, sure, 0, MOST_PEOPLE);
            System.arraycopy(other.thoughts, 0, thoughts, 0, MOST_PEOPLE * FIELDS);
            System.arraycopy(other.sown, 0, sown, 0, FIELDS);
            System.arraycopy(other.grew, 0, grew, 0, FIELDS);
            weight = other.weight;
            wrong = other.wrong;
            changed = other.changed;
            week = other.week;
            z = other.z;
            texts = other.texts;
            System.arraycopy(other.latest, 0, latest, 0, KEYS);
        }

        void settle(int newKind, int newPlace, int newTrust) {
            kind[people] = newKind;
            place[people] = newPlace;
            trust[people] = newTrust;
            sure[people] = 0;
            for (int field = 0; field < FIELDS; field++) {
                think(people, field, 0);
            }
            people++;
        }

        void settleByLot() {
            int newKind = draw() % KINDS;
            int newPlace = draw() % PLACES;
            int newTrust = draw() % (MOST_TRUST + 1);
            settle(newKind, newPlace, newTrust);
        }

        int draw() {
            z = z * 1103515245 + 12345;
            return z >>> 8;
        }

        int thoughtOf(int one, int field) {
            return thoughts[one * FIELDS + field];
        }

        void think(int one, int field, int crop) {
            thoughts[one * FIELDS + field] = crop;
        }

        int fieldsThoughtOf(int one) {
            int bits = 0;
            for (int field = 0; field < FIELDS; field++) {
                if (thoughtOf(one, field) != 0) {
                    bits |= 1 << field;
                }
            }
            return bits;
        }

        boolean hears(int one, int speaker) {
            int apart = Math.abs(place[one] - place[speaker]);
            return one != speaker && (apart <= 1 || apart == PLACES - 1);
        }

        int hearersOf(int speaker) {
            int bits = 0;
            for (int one = 0; one < people; one++) {
                if (hears(one, speaker)) {
                    bits |= 1 << one;
                }
            }
            return bits;
        }

        int believersOf(int field, int crop) {
            int bits = 0;
            for (int one = 0; one < people; one++) {
                if (crop != 0 && thoughtOf(one, field) == crop) {
                    bits |= 1 << one;
                }
            }
            return bits;
        }

        int votesFor(int field, int crop) {
            int sum = 0;
            for (int one = 0; one < people; one++) {
                if (crop != 0 && thoughtOf(one, field) == crop) {
                    sum += WEIGHS[kind[one]];
                }
            }
            return sum;
        }

        int firstCrop(int field) {
            int best = 0;
            int most = 0;
            for (int crop = 1; crop <= MOST_CROP; crop++) {
                int got = votesFor(field, crop);
                if (got > most) {
                    best = crop;
                    most = got;
                }
            }
            return best;
        }

        int agreed() {
            int bits = 0;
            for (int field = 0; field < FIELDS; field++) {
                int leading = firstCrop(field);
                boolean all = leading != 0;
                for (int one = 0; one < people; one++) {
                    int crop = thoughtOf(one, field);
                    all = all && (crop == 0 || crop == leading);
                }
                if (all) {
                    bits |= 1 << field;
                }
            }
            return bits;
        }

        int sureOfAll() {
            int sum = 0;
            for (int one = 0; one < people; one++) {
                sum += sure[one];
            }
            return sum;
        }

        int wordOf(int one, int field) {
            int thinks = thoughtOf(one, field);
            switch (kind[one]) {
                case GOSSIP: return oneMore(thinks);
                case LIAR: return thinks == 0 ? 0 : 10 - oneMore(thinks);
                case EXPERT: return sown[field];
                case TRADER: return tradersWord(field);
                case CHILD: return MOST_CROP;
                default: return thinks;
            }
        }

        static int oneMore(int crop) {
            if (crop == 0) {
                return 0;
            }
            return crop == MOST_CROP ? 1 : crop + 1;
        }

        int tradersWord(int field) {
            int leading = firstCrop(field);
            return leading != 0 ? leading : sown[field];
        }

        int heedOf(int one, int field, int crop) {
            switch (kind[one]) {
                case GOSSIP: return plainHeed(one, field, crop) + 3;
                case LIAR: return (plainHeed(one, field, crop) + 3) / 2;
                case EXPERT: return 0;
                case TRADER: return 2 * Integer.bitCount(believersOf(field, crop));
                case CHILD: return 99;
                default: return plainHeed(one, field, crop);
            }
        }

        int plainHeed(int one, int field, int crop) {
            int text = latest[WANT];
            if (text < 0) {
                return trust[one];
            }
            laws.names[NAME_T] = trust[one];
            laws.names[NAME_N] = Integer.bitCount(believersOf(field, crop));
            laws.names[NAME_S] = sure[one];
            laws.names[NAME_V] = crop;
            return within(laws.given(text), 0, 99);
        }

        void pass(int n) {
            for (int k = 0; k < n; k++) {
                for (int one = 0; one < people; one++) {
                    speak(one);
                }
                lookFromTheRoad();
                grow();
                week++;
            }
        }

        void speak(int speaker) {
            int field = (week + speaker) % FIELDS;
            int crop = wordOf(speaker, field);
            if (crop == 0) {
                return;
            }
            for (int one = 0; one < people; one++) {
                if (!hears(one, speaker)) {
                    continue;
                }
                int heed = heedOf(one, field, crop);
                if (heed > sure[one]) {
                    think(one, field, crop);
                    sure[one] = Math.min(heed, MOST_SURE);
                    changed++;
                } else {
                    sure[one] = Math.max(sure[one] - 1, 0);
                }
            }
        }

        void lookFromTheRoad() {
            int where = draw() % PLACES;
            int field = draw() % FIELDS;
            if (sown[field] == 0) {
                return;
            }
            for (int one = 0; one < people; one++) {
                if (place[one] == where) {
                    think(one, field, sown[field]);
                }
            }
        }

        void grow() {
            int field = week % FIELDS;
            int leading = firstCrop(field);
            grew[field] = leading;
            weight += votesFor(field, leading);
            if (leading != sown[field]) {
                wrong++;
            }
        }
    }

    /** A text: its key, and its expression with each sign behind what it joins. */
    private static final class Text {
        int key;
        int leaves;
        int length;
        /** What comes first stands first: a number as it is, a name as -1 less it, a sign as 0 less it. */
        final int[] code = new int[TAPE_BYTES];

        void begin(int newKey) {
            key = newKey;
            leaves = 0;
            length = 0;
        }

        void takeOver(Text other) {
            key = other.key;
            leaves = other.leaves;
            length = other.length;
            System.arraycopy(other.code, 0, code, 0, TAPE_BYTES);
        }

        void add(int step) {
            if (length < TAPE_BYTES) {
                code[length] = step;
                length++;
            }
        }

        void addLeaf(int step) {
            add(step);
            leaves++;
        }
    }

    /** All texts, and what their names stand for just now. */
    private static final class Laws {
        final Text[] texts = new Text[MOST_TEXTS];
        final int[] names = new int[NAMES];
        private final int[] stack = new int[TAPE_BYTES];

        Laws() {
            for (int i = 0; i < MOST_TEXTS; i++) {
                texts[i] = new Text();
            }
        }

        int given(int number) {
            Text text = texts[number];
            int high = 0;
            for (int i = 0; i < text.length; i++) {
                int step = text.code[i];
                if (step >= -NAMES) {
                    if (high < TAPE_BYTES) {
                        stack[high] = step >= 0 ? step : names[-1 - step];
                        high++;
                    }
                } else if (step == -'!') {
                    if (high > 0) {
                        stack[high - 1] = stack[high - 1] == 0 ? 1 : 0;
                    }
                } else if (high > 1) {
                    high--;
                    stack[high - 1] = joined(-step, stack[high - 1], stack[high]);
                }
            }
            return high > 0 ? stack[0] : 0;
        }

        private static int joined(int sign, int a, int b) {
            switch (sign) {
                case '*': return a * b;
                case '/': return b == 0 ? 0 : a / b;
                case '+': return a + b;
                case '-': return a - b;
                case '<': return a < b ? 1 : 0;
                case '=': return a == b ? 1 : 0;
                case '>': return a > b ? 1 : 0;
                case '&': return a != 0 && b != 0 ? 1 : 0;
                default: return a != 0 || b != 0 ? 1 : 0;
            }
        }
    }

    /** THE TAPE, and how it is read as a text: signs wait on a stack until what they join has come. */
    private static final class Reader {
        private static final int END = 1000, LETTERS = 1001, DIGITS = 1002, UNPARTED = 1003;
        private static final int NO_LEVEL = 0, OR_LEVEL = 1, AND_LEVEL = 2, TEST_LEVEL = 3, SUM_LEVEL = 4, TERM_LEVEL = 5;
        private static final int MOST_DIGITS = 4, MOST_OPEN = 8;
        /** The names of each key, as the names are numbered; a blank is no name of that key. */
        private static final String WANT_NAMES = "tnsv", FEE_NAMES = "    wg", FINE_NAMES = "t s";

        final byte[] tape = new byte[TAPE_BYTES];
        int taped;
        final Text draft = new Text();
        /** The word or sign read last, from which byte on, and the byte behind it. */
        private int token;
        private int start;
        private int at;
        private int wordEnd;
        private final int[] signs = new int[TAPE_BYTES];
        private int high;
        private int brackets;
        private int nots;

        void take(int number) {
            for (int shift = 24; shift >= 0 && taped < TAPE_BYTES; shift -= 8) {
                tape[taped] = (byte) (number >> shift);
                taped++;
            }
        }

        /** The place of the fault; -1 if there is none, and the draft is the text. */
        int faultOnTape() {
            at = 0;
            wordEnd = -1;
            high = 0;
            brackets = 0;
            nots = 0;
            next();
            int key = keyRead();
            if (key < 0) {
                return start;
            }
            draft.begin(key);
            boolean wantsPiece = true;
            for (int i = 0; i < TAPE_BYTES; i++) {
                next();
                if (token == END) {
                    return finished(wantsPiece) ? -1 : start;
                }
                boolean taken = wantsPiece ? takesPiece() : takesSign();
                if (!taken) {
                    return start;
                }
                wantsPiece = token == '(' || token == '!' || levelOf(token) != NO_LEVEL;
            }
            return taped;
        }

        private boolean finished(boolean wantsPiece) {
            if (wantsPiece || brackets > 0) {
                return false;
            }
            drop(NO_LEVEL);
            return true;
        }

        private void next() {
            while (at < taped && tape[at] == ' ') {
                at++;
            }
            start = at;
            if (at >= taped) {
                token = END;
                return;
            }
            if (isLetter(tape[at])) {
                token = LETTERS;
                while (at < taped && isLetter(tape[at])) {
                    at++;
                }
            } else if (isDigit(tape[at])) {
                token = DIGITS;
                while (at < taped && isDigit(tape[at])) {
                    at++;
                }
            } else {
                token = tape[at];
                at++;
                return;
            }
            boolean needsBlank = start == wordEnd;
            wordEnd = at;
            if (needsBlank) {
                token = UNPARTED;
            }
        }

        private static boolean isLetter(int b) {
            return b >= 'a' && b <= 'z';
        }

        private static boolean isDigit(int b) {
            return b >= '0' && b <= '9';
        }

        private int keyRead() {
            if (token != LETTERS) {
                return -1;
            }
            if (isWord("want")) {
                return WANT;
            }
            if (isWord("fee")) {
                return FEE;
            }
            return isWord("fine") ? FINE : -1;
        }

        private boolean isWord(String word) {
            if (at - start != word.length()) {
                return false;
            }
            for (int i = 0; i < word.length(); i++) {
                if (tape[start + i] != word.charAt(i)) {
                    return false;
                }
            }
            return true;
        }

        private boolean takesPiece() {
            switch (token) {
                case DIGITS: return takesNumber();
                case LETTERS: return takesName();
                case '!':
                    nots++;
                    push('!');
                    return nots <= MOST_OPEN;
                case '(':
                    brackets++;
                    push('(');
                    return brackets <= MOST_OPEN;
                default: return false;
            }
        }

        private boolean takesNumber() {
            if (at - start > MOST_DIGITS) {
                return false;
            }
            int number = 0;
            for (int i = start; i < at; i++) {
                number = number * 10 + tape[i] - '0';
            }
            draft.addLeaf(number);
            dropNots();
            return true;
        }

        private boolean takesName() {
            int name = at - start == 1 ? namesOf(draft.key).indexOf((char) tape[start]) : -1;
            if (name < 0) {
                return false;
            }
            draft.addLeaf(-1 - name);
            dropNots();
            return true;
        }

        private static String namesOf(int key) {
            switch (key) {
                case WANT: return WANT_NAMES;
                case FEE: return FEE_NAMES;
                default: return FINE_NAMES;
            }
        }

        private boolean takesSign() {
            if (token == ')') {
                return closes();
            }
            int level = levelOf(token);
            if (level == NO_LEVEL) {
                return false;
            }
            // Tests do not follow one another, so one of the same level stays, and is the fault.
            drop(level == TEST_LEVEL ? TEST_LEVEL : level - 1);
            if (level == TEST_LEVEL && topLevel() == TEST_LEVEL) {
                return false;
            }
            push(token);
            return true;
        }

        private boolean closes() {
            if (brackets == 0) {
                return false;
            }
            drop(NO_LEVEL);
            if (high > 0) {
                high--;
            }
            brackets--;
            dropNots();
            return true;
        }

        private void push(int sign) {
            if (high < TAPE_BYTES) {
                signs[high] = sign;
                high++;
            }
        }

        /** Signs that bind closer than a level have all they join. */
        private void drop(int level) {
            while (high > 0 && topLevel() > level) {
                high--;
                draft.add(-signs[high]);
            }
        }

        private void dropNots() {
            while (high > 0 && signs[high - 1] == '!') {
                high--;
                nots--;
                draft.add(-'!');
            }
        }

        private int topLevel() {
            return high > 0 ? levelOf(signs[high - 1]) : NO_LEVEL;
        }

        private static int levelOf(int sign) {
            switch (sign) {
                case '|': return OR_LEVEL;
                case '&': return AND_LEVEL;
                case '<': case '=': case '>': return TEST_LEVEL;
                case '+': case '-': return SUM_LEVEL;
                case '*': case '/': return TERM_LEVEL;
                default: return NO_LEVEL;
            }
        }
    }

    /** A row of shorts or of whole floats, or missing. */
    private static final class Sheet {
        int sort = MISSING;
        int length;
        /** Whole floats of at most five digits are held just as well as ints; NONE: no number. */
        final int[] places = new int[ROW_PLACES];

        void begin(int newSort, int newLength) {
            sort = newSort;
            length = newLength;
            for (int i = 0; i < ROW_PLACES; i++) {
                places[i] = 0;
            }
        }

        void takeOver(Sheet other) {
            sort = other.sort;
            length = other.length;
            System.arraycopy(other.places, 0, places, 0, ROW_PLACES);
        }

        boolean hasNumber(int place) {
            return places[place] != NONE;
        }

        boolean lacks(int place, int many) {
            return many < 0 || place < 0 || place > length || many > length - place;
        }
    }

    /** What a slot holds; of one of PEOPLE only its kind is ever asked. */
    private static final class Slot {
        int thing = HOLDS_NOTHING;
        int kind;
        int number;
        final Sheet row = new Sheet();
    }
}
