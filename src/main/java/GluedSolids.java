import java.util.Arrays;
import java.util.NoSuchElementException;

/**
 * A solid made of tetrahedra whose faces are glued, always held in the least of all its numberings.
 *
 * <p>Every row that a call needs is made with the object and used again: calls make nothing.
 */
public final class GluedSolids {
    public static final int NONE = -1;

    private static final int MOST_TETS = 8;
    private static final int MOST_FACES = 32;
    private static final int KEPT = 2;
    private static final int APART = -200;

    /** Above every number that a solid has. */
    private static final int ABOVE_ALL = 1 << 30;

    // Kinds of MOVES, in the order of their places.
    private static final int TWO_THREE = 0;
    private static final int THREE_TWO = 1;
    private static final int ONE_FOUR = 2;
    private static final int FOUR_ONE = 3;
    private static final int KINDS = 4;

    // All places of MOVES in one line, in the document's order: each kind's begin, and their end.
    private static final int THREES = 32;
    private static final int ONES = 160;
    private static final int FOURS = 168;
    private static final int PLACES = 200;

    private static final int CANNOT = -2;
    private static final int TOO_MANY = -3;

    /** Where permutation p sends corner c: at 4 p + c. */
    private static final int[] IMAGE = {
        0, 1, 2, 3, 0, 1, 3, 2, 0, 2, 1, 3, 0, 2, 3, 1, 0, 3, 1, 2, 0, 3, 2, 1,
        1, 0, 2, 3, 1, 0, 3, 2, 1, 2, 0, 3, 1, 2, 3, 0, 1, 3, 0, 2, 1, 3, 2, 0,
        2, 0, 1, 3, 2, 0, 3, 1, 2, 1, 0, 3, 2, 1, 3, 0, 2, 3, 0, 1, 2, 3, 1, 0,
        3, 0, 1, 2, 3, 0, 2, 1, 3, 1, 0, 2, 3, 1, 2, 0, 3, 2, 0, 1, 3, 2, 1, 0,
    };

    private static final int[] INVERSE = {
        0, 1, 2, 4, 3, 5, 6, 7, 12, 18, 13, 19, 8, 10, 14, 20, 16, 22, 9, 11, 15, 21, 17, 23,
    };

    private static final int[] ODD = {
        0, 1, 1, 0, 0, 1, 1, 0, 0, 1, 1, 0, 0, 1, 1, 0, 0, 1, 1, 0, 0, 1, 1, 0,
    };

    /** The permutation that changes corners i and j about: at 4 i + j. */
    private static final int[] SWAP = {
        0, 6, 14, 21,
        6, 0, 2, 5,
        14, 2, 0, 1,
        21, 5, 1, 0,
    };

    /** The permutation that does p first, then q: at 24 q + p. */
    private static final int[] AFTER = {
        0, 1, 2, 3, 4, 5, 6, 7, 8, 9, 10, 11, 12, 13, 14, 15, 16, 17, 18, 19, 20, 21, 22, 23,
        1, 0, 4, 5, 2, 3, 7, 6, 10, 11, 8, 9, 18, 19, 20, 21, 22, 23, 12, 13, 14, 15, 16, 17,
        2, 3, 0, 1, 5, 4, 12, 13, 14, 15, 16, 17, 6, 7, 8, 9, 10, 11, 19, 18, 22, 23, 20, 21,
        3, 2, 5, 4, 0, 1, 13, 12, 16, 17, 14, 15, 19, 18, 22, 23, 20, 21, 6, 7, 8, 9, 10, 11,
        4, 5, 1, 0, 3, 2, 18, 19, 20, 21, 22, 23, 7, 6, 10, 11, 8, 9, 13, 12, 16, 17, 14, 15,
        5, 4, 3, 2, 1, 0, 19, 18, 22, 23, 20, 21, 13, 12, 16, 17, 14, 15, 7, 6, 10, 11, 8, 9,
        6, 7, 8, 9, 10, 11, 0, 1, 2, 3, 4, 5, 14, 15, 12, 13, 17, 16, 20, 21, 18, 19, 23, 22,
        7, 6, 10, 11, 8, 9, 1, 0, 4, 5, 2, 3, 20, 21, 18, 19, 23, 22, 14, 15, 12, 13, 17, 16,
        8, 9, 6, 7, 11, 10, 14, 15, 12, 13, 17, 16, 0, 1, 2, 3, 4, 5, 21, 20, 23, 22, 18, 19,
        9, 8, 11, 10, 6, 7, 15, 14, 17, 16, 12, 13, 21, 20, 23, 22, 18, 19, 0, 1, 2, 3, 4, 5,
        10, 11, 7, 6, 9, 8, 20, 21, 18, 19, 23, 22, 1, 0, 4, 5, 2, 3, 15, 14, 17, 16, 12, 13,
        11, 10, 9, 8, 7, 6, 21, 20, 23, 22, 18, 19, 15, 14, 17, 16, 12, 13, 1, 0, 4, 5, 2, 3,
        12, 13, 14, 15, 16, 17, 2, 3, 0, 1, 5, 4, 8, 9, 6, 7, 11, 10, 22, 23, 19, 18, 21, 20,
        13, 12, 16, 17, 14, 15, 3, 2, 5, 4, 0, 1, 22, 23, 19, 18, 21, 20, 8, 9, 6, 7, 11, 10,
        14, 15, 12, 13, 17, 16, 8, 9, 6, 7, 11, 10, 2, 3, 0, 1, 5, 4, 23, 22, 21, 20, 19, 18,
        15, 14, 17, 16, 12, 13, 9, 8, 11, 10, 6, 7, 23, 22, 21, 20, 19, 18, 2, 3, 0, 1, 5, 4,
        16, 17, 13, 12, 15, 14, 22, 23, 19, 18, 21, 20, 3, 2, 5, 4, 0, 1, 9, 8, 11, 10, 6, 7,
        17, 16, 15, 14, 13, 12, 23, 22, 21, 20, 19, 18, 9, 8, 11, 10, 6, 7, 3, 2, 5, 4, 0, 1,
        18, 19, 20, 21, 22, 23, 4, 5, 1, 0, 3, 2, 10, 11, 7, 6, 9, 8, 16, 17, 13, 12, 15, 14,
        19, 18, 22, 23, 20, 21, 5, 4, 3, 2, 1, 0, 16, 17, 13, 12, 15, 14, 10, 11, 7, 6, 9, 8,
        20, 21, 18, 19, 23, 22, 10, 11, 7, 6, 9, 8, 4, 5, 1, 0, 3, 2, 17, 16, 15, 14, 13, 12,
        21, 20, 23, 22, 18, 19, 11, 10, 9, 8, 7, 6, 17, 16, 15, 14, 13, 12, 4, 5, 1, 0, 3, 2,
        22, 23, 19, 18, 21, 20, 16, 17, 13, 12, 15, 14, 5, 4, 3, 2, 1, 0, 11, 10, 9, 8, 7, 6,
        23, 22, 21, 20, 19, 18, 17, 16, 15, 14, 13, 12, 11, 10, 9, 8, 7, 6, 5, 4, 3, 2, 1, 0,
    };

    private final Solid now;
    private final Solid before;
    private final Solid trial;
    private final Solid[] kept;
    private final boolean[] isKept;
    private final Past past;
    private final Told told;
    private final Script script;
    private final Rumours rumours;
    private final Numbering numbering;
    private final Skeleton bones;
    private final Mover mover;
    private final Search search;
    private final Walks walks;
    private int drawState;

    public GluedSolids() {
        now = new Solid();
        before = new Solid();
        trial = new Solid();
        kept = new Solid[KEPT];
        for (int i = 0; i < KEPT; i++) {
            kept[i] = new Solid();
        }
        isKept = new boolean[KEPT];
        past = new Past();
        told = new Told();
        script = new Script();
        rumours = new Rumours();
        numbering = new Numbering();
        bones = new Skeleton();
        mover = new Mover(bones, numbering);
        search = new Search(mover, bones);
        walks = new Walks();
    }

    // ---- texts

    public int sign(int v) {
        return script.append(v);
    }

    public boolean end(int n) {
        return script.cut(n);
    }

    public int solid() {
        int answer = script.readSolid(trial);
        script.cut(0);
        if (answer < 0) {
            return answer;
        }
        if (!trial.hangsTogether()) {
            return APART;
        }
        past.push(now);
        numbering.settle(trial);
        now.copy(trial);
        return now.tets;
    }

    public int glued(int tet, int f, int what) throws NoSuchElementException {
        if (!now.hasCorner(tet, f) || what < 0 || what > 2) {
            throw new NoSuchElementException();
        }
        int code = now.glue[4 * tet + f];
        if (code < 0) {
            return NONE;
        }
        if (what == 0) {
            return code >> 5;
        }
        return what == 1 ? code & 31 : IMAGE[4 * (code & 31) + f];
    }

    public int shows() {
        told.clear();
        told.add('0' + now.tets);
        for (int face = 0; face < 4 * now.tets; face++) {
            if (now.partner(face) > face) {
                told.add('0' + (face >> 2));
                told.add('0' + (face & 3));
                told.add('0' + (now.glue[face] >> 5));
                told.add('a' + (now.glue[face] & 31));
            }
        }
        return told.size;
    }

    public int sheet(int kind, int n, int f, int step) {
        if (kind < 0 || kind > 3 || n > MOST_FACES) {
            return NONE;
        }
        if (kind == 3) {
            return -3;
        }
        if (n < 0) {
            return -2;
        }
        trial.copy(now);
        for (int face = 0; face < 4 * now.tets; face++) {
            if (face >= n || sheetEntry(kind, f + face * step) < 0) {
                trial.free(face);
            }
        }
        if (!trial.hangsTogether()) {
            return -4;
        }
        numbering.settle(trial);
        now.copy(trial);
        return now.freeFaces();
    }

    private static int sheetEntry(int kind, int value) {
        if (kind == 0) {
            return (byte) value;
        }
        return kind == 1 ? (short) value : value;
    }

    // ---- what it is

    public int degree(int tet, int u, int v) {
        if (!now.hasEdge(tet, u, v)) {
            return NONE;
        }
        bones.read(now);
        int edge = bones.edge[16 * tet + 4 * u + v];
        told.clear();
        told.addFlag(bones.isFree[edge]);
        told.addFlag(bones.isReversed(edge));
        return bones.degree[edge];
    }

    public int point(int tet, int v) {
        if (!now.hasCorner(tet, v)) {
            return NONE;
        }
        bones.read(now);
        int point = bones.point[4 * tet + v];
        told.clear();
        told.add(bones.ends[point]);
        told.add(bones.chi(point));
        told.addFlag(bones.isRound(point));
        return bones.size[point];
    }

    public int edges() {
        bones.read(now);
        int least = bones.leastDegree();
        int greatest = bones.greatestDegree();
        told.clear();
        told.add(least);
        told.add(bones.edgesOfDegree(least));
        told.add(greatest);
        told.add(bones.edgesOfDegree(greatest));
        told.add(bones.reversedEdges());
        return bones.edgeCount;
    }

    public int points() {
        bones.read(now);
        told.clear();
        told.add(bones.roundPoints());
        told.add(bones.leastChi());
        return bones.pointCount;
    }

    public int manifold() {
        bones.read(now);
        told.clear();
        told.add(now.freeFaces());
        told.add(bones.reversedEdges());
        told.add(bones.pointCount - bones.roundPoints());
        return isManifold(now) ? 1 : 0;
    }

    /** The bones must have been read of the solid. */
    private boolean isManifold(Solid s) {
        return s.freeFaces() == 0 && bones.reversedEdges() == 0 && bones.roundPoints() == bones.pointCount;
    }

    public int sides() {
        int ones = now.otherSide();
        told.clear();
        if (ones < 0) {
            return 0;
        }
        told.add(ones);
        return 1;
    }

    public int group() {
        bones.read(now);
        int rank = walks.rank(now, bones);
        told.clear();
        for (int i = 0; i < walks.torsions; i++) {
            told.add(walks.torsion[i]);
        }
        return rank;
    }

    public int euler() {
        bones.read(now);
        int faces = (4 * now.tets + now.freeFaces()) / 2;
        return 100 + bones.pointCount - bones.edgeCount + faces - now.tets;
    }

    public int alike() {
        trial.copy(now);
        return numbering.settle(trial);
    }

    // ---- moves

    public int two(int tet, int f) {
        return moveNow(TWO_THREE, tet, f, 0);
    }

    public int three(int tet, int u, int v) {
        return moveNow(THREE_TWO, tet, u, v);
    }

    public int one(int tet) {
        return moveNow(ONE_FOUR, tet, 0, 0);
    }

    public int four(int tet, int v) {
        return moveNow(FOUR_ONE, tet, v, 0);
    }

    private int moveNow(int kind, int tet, int u, int v) {
        before.copy(now);
        int answer = mover.attempt(now, kind, tet, u, v);
        if (answer >= 0) {
            past.push(before);
        }
        return answer;
    }

    public int trail() {
        int fault = script.readTrail();
        script.cut(0);
        if (fault < 0) {
            return fault;
        }
        before.copy(now);
        int done = follow(now);
        if (done > 0) {
            past.push(before);
        }
        told.clear();
        told.addFlag(done < script.steps);
        told.add(now.tets);
        return done;
    }

    public int tries() {
        int fault = script.readTrail();
        script.cut(0);
        if (fault < 0) {
            return fault;
        }
        trial.copy(now);
        int done = follow(trial);
        told.clear();
        told.add(done);
        told.addFlag(trial.isLike(now));
        return trial.tets;
    }

    /** Does the steps of the trail that was read till one can't be: how many were done. */
    private int follow(Solid s) {
        for (int i = 0; i < script.steps; i++) {
            int[] step = script.step;
            int answer = mover.attempt(s, step[4 * i], step[4 * i + 1], step[4 * i + 2], step[4 * i + 3]);
            if (answer < 0) {
                return i;
            }
        }
        return script.steps;
    }

    public int comes() {
        int different = search.reach(now);
        told.clear();
        for (int kind = 0; kind < KINDS; kind++) {
            told.add(search.places[kind]);
        }
        return different;
    }

    public int leads(int i) {
        if (i < 0 || i >= KEPT) {
            return NONE;
        }
        int place = isKept[i] ? search.placeTo(now, kept[i]) : NONE;
        if (place < 0) {
            return -2;
        }
        tellPlace(place);
        return Mover.kindOf(place);
    }

    private void tellPlace(int place) {
        told.clear();
        if (place < THREES) {
            told.add(place >> 2);
            told.add(place & 3);
        } else if (place < ONES) {
            told.add((place - THREES) >> 4);
            told.add(((place - THREES) >> 2) & 3);
            told.add((place - THREES) & 3);
        } else if (place < FOURS) {
            told.add(place - ONES);
        } else {
            told.add((place - FOURS) >> 2);
            told.add((place - FOURS) & 3);
        }
    }

    public int simpler() {
        before.copy(now);
        int done = 0;
        // Each of these MOVES takes TETS away, so there are fewer of them than TETS.
        for (int i = 0; i < MOST_TETS; i++) {
            if (!mover.simplify(now)) {
                break;
            }
            done++;
        }
        if (done > 0) {
            past.push(before);
        }
        told.clear();
        told.add(done);
        return now.tets;
    }

    public int way(int i, int n, int most) {
        if (i < 0 || i >= KEPT || n < 1 || n > 30 || most < 1 || most > MOST_TETS) {
            return NONE;
        }
        if (!isKept[i]) {
            return -3;
        }
        int moves = search.fewest(now, kept[i], n, most);
        if (moves < 0) {
            return -2;
        }
        told.clear();
        told.add(search.found.size);
        return moves;
    }

    public int drawn(int seed, int n) {
        if (n < 1 || n > 12) {
            return NONE;
        }
        drawState = seed;
        trial.copy(now);
        int done = 0;
        for (int i = 0; i < n; i++) {
            if (drawOne(trial) >= 0) {
                done++;
            }
        }
        bones.read(trial);
        told.clear();
        told.add(done);
        told.addFlag(isManifold(trial));
        return trial.tets;
    }

    private int drawOne(Solid s) {
        int kind = draw(4);
        int tet = draw(8);
        int u = kind == ONE_FOUR ? 0 : draw(4);
        int v = kind == THREE_TWO ? draw(4) : 0;
        return mover.attempt(s, kind, tet, u, v);
    }

    private int draw(int n) {
        drawState = drawState * 1103515245 + 12345;
        return n < 1 ? 0 : (drawState >>> 16) % n;
    }

    public int undo() {
        return past.pop(now);
    }

    // ---- which edge it was

    public int heard(int what, int v) {
        return rumours.add(what, v);
    }

    public int forget() {
        int were = rumours.size;
        rumours.size = 0;
        return were;
    }

    public int fits() {
        bones.read(now);
        told.clear();
        int fitting = 0;
        for (int end = 0; end < Skeleton.MOST_ENDS; end++) {
            if (bones.edge[end] == end && rumours.allFit(bones, end)) {
                if (fitting == 0) {
                    told.add(end >> 4);
                    told.add((end >> 2) & 3);
                    told.add(end & 3);
                }
                fitting++;
            }
        }
        return fitting;
    }

    // ---- kept

    public boolean keep(int i) {
        if (i < 0 || i >= KEPT) {
            return false;
        }
        kept[i].copy(now);
        isKept[i] = true;
        return true;
    }

    public boolean again(int i) {
        if (i < 0 || i >= KEPT || !isKept[i]) {
            return false;
        }
        now.copy(kept[i]);
        past.size = 0;
        return true;
    }

    public int same(int i) {
        if (i < 0 || i >= KEPT) {
            return NONE;
        }
        if (!isKept[i]) {
            return -2;
        }
        told.clear();
        told.add(kept[i].tets);
        return now.isLike(kept[i]) ? 1 : 0;
    }

    public int count(int what) {
        switch (what) {
            case 0:
                return now.tets;
            case 1:
                return now.freeFaces();
            case 2:
                return past.size;
            case 3:
                return rumours.size;
            case 4:
                return told.size;
            case 5:
                return script.length;
            default:
                return NONE;
        }
    }

    public long row(int i) throws NoSuchElementException {
        if (i < 0 || i >= told.size) {
            throw new NoSuchElementException();
        }
        return told.number[i];
    }

    /** TETS and how their FACES are glued; at first one TET, all FACES free. */
    private static final class Solid {
        int tets;

        /**
         * Of FACE f of TET t, at 4 t + f: below 0 if it is free, else 32 times the TET it is glued to
         * and the permutation. That orders as the document's 24 times does, and comes apart without dividing.
         */
        final int[] glue;

        Solid() {
            tets = 1;
            glue = new int[MOST_FACES];
            Arrays.fill(glue, NONE);
        }

        void clear(int newTets) {
            tets = newTets;
            Arrays.fill(glue, NONE);
        }

        void copy(Solid other) {
            tets = other.tets;
            System.arraycopy(other.glue, 0, glue, 0, MOST_FACES);
        }

        boolean isLike(Solid other) {
            if (tets != other.tets) {
                return false;
            }
            for (int face = 0; face < 4 * tets; face++) {
                if (glue[face] != other.glue[face]) {
                    return false;
                }
            }
            return true;
        }

        boolean hasTet(int tet) {
            return tet >= 0 && tet < tets;
        }

        /** Also asks for the FACE of that number. */
        boolean hasCorner(int tet, int v) {
            return hasTet(tet) && v >= 0 && v < 4;
        }

        boolean hasEdge(int tet, int u, int v) {
            return hasCorner(tet, u) && v >= 0 && v < 4 && u != v;
        }

        /** The FACE to which a FACE is glued, or NONE. */
        int partner(int face) {
            int code = glue[face];
            return code < 0 ? NONE : 4 * (code >> 5) + IMAGE[4 * (code & 31) + (face & 3)];
        }

        void join(int face, int tet, int turn) {
            int there = 4 * tet + IMAGE[4 * turn + (face & 3)];
            glue[face] = tet << 5 | turn;
            glue[there] = (face >> 2) << 5 | INVERSE[turn];
        }

        void free(int face) {
            int there = partner(face);
            if (there >= 0) {
                glue[there] = NONE;
                glue[face] = NONE;
            }
        }

        int freeFaces() {
            int free = 0;
            for (int face = 0; face < 4 * tets; face++) {
                if (glue[face] < 0) {
                    free++;
                }
            }
            return free;
        }

        boolean hangsTogether() {
            int reached = 1;
            // Each round reaches at least one TET more, as long as there are any.
            for (int round = 1; round < tets; round++) {
                for (int face = 0; face < 4 * tets; face++) {
                    if ((reached >> (face >> 2) & 1) == 1 && glue[face] >= 0) {
                        reached |= 1 << (glue[face] >> 5);
                    }
                }
            }
            return reached == (1 << tets) - 1;
        }

        /** TETS that are told 1 if TET 0 is told 0, as bits; NONE if it is not TWO-SIDED. */
        int otherSide() {
            int ones = 0;
            int reached = 1;
            // The numbering reaches each TET from a lesser one, so that one is told already.
            for (int face = 0; face < 4 * tets; face++) {
                int code = glue[face];
                if (code < 0) {
                    continue;
                }
                int to = code >> 5;
                int side = (ones >> (face >> 2) & 1) ^ 1 ^ ODD[code & 31];
                if ((reached >> to & 1) == 0) {
                    reached |= 1 << to;
                    ones |= side << to;
                } else if ((ones >> to & 1) != side) {
                    return NONE;
                }
            }
            return ones;
        }
    }

    /** Renumbers solids by the numbering of the least row. */
    private static final class Numbering {
        private final int[] least = new int[MOST_FACES];
        private final int[] numberOf = new int[MOST_TETS];
        private final int[] tetOf = new int[MOST_TETS];
        private final int[] names = new int[MOST_TETS];

        /** Renumbers a solid that hangs together: how many numberings have the least row. */
        int settle(Solid s) {
            Arrays.fill(least, ABOVE_ALL);
            int ties = 0;
            for (int tet = 0; tet < s.tets; tet++) {
                for (int turn = 0; turn < 24; turn++) {
                    int order = compare(s, tet, turn);
                    if (order < 0) {
                        ties = 1;
                    } else if (order == 0) {
                        ties++;
                    }
                }
            }
            System.arraycopy(least, 0, s.glue, 0, 4 * s.tets);
            return ties;
        }

        /**
         * The row of the numbering that begins with a TET and new names of its CORNERS, against the least
         * one so far: below 0 if it is less (it is the least then), 0 if it is the same, else above 0.
         * It is left at the first number that is greater: most are left within a few numbers.
         */
        private int compare(Solid s, int first, int turn) {
            Arrays.fill(numberOf, NONE);
            numberOf[first] = 0;
            tetOf[0] = first;
            names[first] = turn;
            int known = 1;
            boolean isLess = false;
            for (int at = 0; at < 4 * s.tets; at++) {
                int tet = tetOf[at >> 2];
                int back = INVERSE[names[tet]];
                int code = s.glue[4 * tet + IMAGE[4 * back + (at & 3)]];
                int here = NONE;
                if (code >= 0) {
                    int to = code >> 5;
                    int step = AFTER[24 * (code & 31) + back];
                    if (numberOf[to] < 0) {
                        numberOf[to] = known;
                        tetOf[known] = to;
                        names[to] = INVERSE[step];
                        known++;
                    }
                    here = numberOf[to] << 5 | AFTER[24 * names[to] + step];
                }
                if (!isLess && here > least[at]) {
                    return 1;
                }
                isLess = isLess || here < least[at];
                least[at] = here;
            }
            return isLess ? -1 : 0;
        }
    }

    /**
     * EDGES and POINTS of a solid. An end of an EDGE of a TET t at CORNER u towards v stands at 16 t + 4 u + v;
     * an EDGE is named by the first such number of its EDGES of TETS, a POINT by the first 4 t + u of its CORNERS.
     */
    private static final class Skeleton {
        static final int MOST_ENDS = 16 * MOST_TETS;

        /** The first end that an end is one with, or NONE. */
        private final int[] end = new int[MOST_ENDS];

        /** The EDGE of an end, or NONE. */
        final int[] edge = new int[MOST_ENDS];

        /** By EDGE. */
        final int[] degree = new int[MOST_ENDS];
        final boolean[] isFree = new boolean[MOST_ENDS];

        /** The POINT of a CORNER, or NONE. */
        final int[] point = new int[MOST_FACES];

        /** By POINT. */
        final int[] size = new int[MOST_FACES];
        final int[] ends = new int[MOST_FACES];
        private final int[] freeSides = new int[MOST_FACES];

        int edgeCount;
        int pointCount;
        private final int[] queue = new int[MOST_ENDS];

        void read(Solid s) {
            clear();
            for (int start = 0; start < 16 * s.tets; start++) {
                if (end[start] < 0 && (start >> 2 & 3) != (start & 3)) {
                    floodEnds(s, start);
                }
            }
            for (int start = 0; start < 4 * s.tets; start++) {
                if (point[start] < 0) {
                    floodCorners(s, start);
                }
            }
            measureEdges(s);
            measurePoints(s);
        }

        private void clear() {
            Arrays.fill(end, NONE);
            Arrays.fill(edge, NONE);
            Arrays.fill(degree, 0);
            Arrays.fill(point, NONE);
            Arrays.fill(size, 0);
            Arrays.fill(ends, 0);
            Arrays.fill(freeSides, 0);
            for (int i = 0; i < MOST_ENDS; i++) {
                isFree[i] = false;
            }
            edgeCount = 0;
            pointCount = 0;
        }

        private void floodEnds(Solid s, int start) {
            end[start] = start;
            queue[0] = start;
            int reached = 1;
            for (int i = 0; i < reached && i < MOST_ENDS; i++) {
                int tet = queue[i] >> 4;
                int u = queue[i] >> 2 & 3;
                int v = queue[i] & 3;
                for (int f = 0; f < 4; f++) {
                    int code = s.glue[4 * tet + f];
                    if (f == u || f == v || code < 0) {
                        continue;
                    }
                    int turn = 4 * (code & 31);
                    int there = 16 * (code >> 5) + 4 * IMAGE[turn + u] + IMAGE[turn + v];
                    if (end[there] < 0) {
                        end[there] = start;
                        queue[reached] = there;
                        reached++;
                    }
                }
            }
        }

        private void floodCorners(Solid s, int start) {
            point[start] = start;
            queue[0] = start;
            int reached = 1;
            for (int i = 0; i < reached && i < MOST_FACES; i++) {
                int tet = queue[i] >> 2;
                int v = queue[i] & 3;
                for (int f = 0; f < 4; f++) {
                    int code = s.glue[4 * tet + f];
                    if (f == v || code < 0) {
                        continue;
                    }
                    int there = 4 * (code >> 5) + IMAGE[4 * (code & 31) + v];
                    if (point[there] < 0) {
                        point[there] = start;
                        queue[reached] = there;
                        reached++;
                    }
                }
            }
        }

        private void measureEdges(Solid s) {
            for (int here = 0; here < 16 * s.tets; here++) {
                int u = here >> 2 & 3;
                int v = here & 3;
                if (u >= v) {
                    continue;
                }
                int name = Math.min(end[here], end[turned(here)]);
                edge[here] = name;
                edge[turned(here)] = name;
                degree[name]++;
                if (name == here) {
                    edgeCount++;
                }
                for (int f = 0; f < 4; f++) {
                    if (f != u && f != v && s.glue[4 * (here >> 4) + f] < 0) {
                        isFree[name] = true;
                    }
                }
            }
        }

        private void measurePoints(Solid s) {
            for (int corner = 0; corner < 4 * s.tets; corner++) {
                int name = point[corner];
                size[name]++;
                if (name == corner) {
                    pointCount++;
                }
                for (int f = 0; f < 4; f++) {
                    if (f != (corner & 3) && s.glue[(corner & 28) + f] < 0) {
                        freeSides[name]++;
                    }
                    if (end[4 * corner + f] == 4 * corner + f) {
                        ends[name]++;
                    }
                }
            }
        }

        /** The other end of the same EDGE of a TET. */
        private static int turned(int end) {
            return end & 112 | (end & 3) << 2 | end >> 2 & 3;
        }

        boolean isReversed(int edge) {
            return end[edge] == end[turned(edge)];
        }

        int chi(int point) {
            int sides = (3 * size[point] + freeSides[point]) / 2;
            return ends[point] - sides + size[point];
        }

        boolean isRound(int point) {
            return freeSides[point] == 0 && chi(point) == 2;
        }

        int leastDegree() {
            int least = ABOVE_ALL;
            for (int i = 0; i < MOST_ENDS; i++) {
                if (degree[i] > 0) {
                    least = Math.min(least, degree[i]);
                }
            }
            return least;
        }

        int greatestDegree() {
            int greatest = 0;
            for (int i = 0; i < MOST_ENDS; i++) {
                greatest = Math.max(greatest, degree[i]);
            }
            return greatest;
        }

        int edgesOfDegree(int wanted) {
            int many = 0;
            for (int i = 0; i < MOST_ENDS; i++) {
                if (degree[i] == wanted) {
                    many++;
                }
            }
            return many;
        }

        int reversedEdges() {
            int many = 0;
            for (int i = 0; i < MOST_ENDS; i++) {
                if (degree[i] > 0 && isReversed(i)) {
                    many++;
                }
            }
            return many;
        }

        int roundPoints() {
            int many = 0;
            for (int i = 0; i < MOST_FACES; i++) {
                if (size[i] > 0 && isRound(i)) {
                    many++;
                }
            }
            return many;
        }

        int leastChi() {
            int least = ABOVE_ALL;
            for (int i = 0; i < MOST_FACES; i++) {
                if (size[i] > 0) {
                    least = Math.min(least, chi(i));
                }
            }
            return least;
        }
    }

    /**
     * Does MOVES. A place is a number below PLACES: 4 t + f of a FACE, THREES and 16 t + 4 u + v of an EDGE
     * (u below v), ONES and a TET, FOURS and 4 t + v of a CORNER.
     */
    private static final class Mover {
        private final Skeleton bones;
        private final Numbering numbering;
        private final Solid built = new Solid();

        /** By FACE of the old TETS: the new TET that has it then, or NONE, and new names of the old CORNERS. */
        private final int[] home = new int[MOST_FACES];
        private final int[] turn = new int[MOST_FACES];

        Mover(Skeleton bones, Numbering numbering) {
            this.bones = bones;
            this.numbering = numbering;
        }

        static int kindOf(int place) {
            if (place < ONES) {
                return place < THREES ? TWO_THREE : THREE_TWO;
            }
            return place < FOURS ? ONE_FOUR : FOUR_ONE;
        }

        /** How many TETS there are more after a MOVE. */
        static int growth(int place) {
            if (place < ONES) {
                return place < THREES ? 1 : -1;
            }
            return place < FOURS ? 3 : -3;
        }

        /** Does a MOVE on a solid, if it can be: how many TETS there are, or the answer below 0. */
        int attempt(Solid s, int kind, int tet, int u, int v) {
            int place = placeOf(s, kind, tet, u, v);
            if (place < 0) {
                return NONE;
            }
            if (kind == THREE_TWO || kind == FOUR_ONE) {
                bones.read(s);
            }
            int refusal = refusal(s, place);
            if (refusal < 0) {
                return refusal;
            }
            make(s, place, built);
            s.copy(built);
            return s.tets;
        }

        private static int placeOf(Solid s, int kind, int tet, int u, int v) {
            if (!s.hasTet(tet)) {
                return NONE;
            }
            if (kind == ONE_FOUR) {
                return ONES + tet;
            }
            if (kind == THREE_TWO) {
                if (!s.hasEdge(tet, u, v)) {
                    return NONE;
                }
                return THREES + 16 * tet + 4 * Math.min(u, v) + Math.max(u, v);
            }
            if (!s.hasCorner(tet, u)) {
                return NONE;
            }
            return (kind == TWO_THREE ? 0 : FOURS) + 4 * tet + u;
        }

        /** The first 4-1 that can be is done, else the first 3-2: false if there is none. */
        boolean simplify(Solid s) {
            bones.read(s);
            int place = firstBetween(s, FOURS, PLACES);
            if (place < 0) {
                place = firstBetween(s, THREES, ONES);
            }
            if (place < 0) {
                return false;
            }
            make(s, place, built);
            s.copy(built);
            return true;
        }

        private int firstBetween(Solid s, int from, int to) {
            for (int place = from; place < to; place++) {
                if (refusal(s, place) == 0) {
                    return place;
                }
            }
            return NONE;
        }

        /** 0 if a MOVE can be at a place, else below 0; the bones must have been read of the solid. */
        int refusal(Solid s, int place) {
            if (place < THREES) {
                return refusalOfTwo(s, place);
            }
            if (place < ONES) {
                return refusalOfThree(s, place - THREES);
            }
            if (place < FOURS) {
                if (!s.hasTet(place - ONES)) {
                    return NONE;
                }
                return s.tets + 3 > MOST_TETS ? TOO_MANY : 0;
            }
            return refusalOfFour(s, place - FOURS);
        }

        private int refusalOfTwo(Solid s, int face) {
            if (!s.hasTet(face >> 2)) {
                return NONE;
            }
            int code = s.glue[face];
            if (code < 0 || code >> 5 == face >> 2) {
                return CANNOT;
            }
            return s.tets + 1 > MOST_TETS ? TOO_MANY : 0;
        }

        private int refusalOfThree(Solid s, int end) {
            int u = end >> 2 & 3;
            int v = end & 3;
            if (!s.hasTet(end >> 4) || u >= v) {
                return NONE;
            }
            int edge = bones.edge[end];
            if (bones.degree[edge] != 3 || bones.isFree[edge] || bones.isReversed(edge)) {
                return CANNOT;
            }
            int tets = 1 << (end >> 4);
            for (int x = 0; x < 4; x++) {
                if (x != u && x != v) {
                    tets |= 1 << (s.glue[4 * (end >> 4) + x] >> 5);
                }
            }
            return Integer.bitCount(tets) == 3 ? 0 : CANNOT;
        }

        private int refusalOfFour(Solid s, int corner) {
            if (!s.hasTet(corner >> 2)) {
                return NONE;
            }
            int point = bones.point[corner];
            if (bones.size[point] != 4 || !bones.isRound(point)) {
                return CANNOT;
            }
            int tets = 0;
            for (int c = 0; c < 4 * s.tets; c++) {
                if (bones.point[c] == point) {
                    tets |= 1 << (c >> 2);
                }
            }
            for (int c = 0; c < 4 * s.tets; c++) {
                // Three sides and three others: each is met once if all are met.
                if (bones.point[c] == point && (neighbours(s, c) | 1 << (c >> 2)) != tets) {
                    return CANNOT;
                }
            }
            return Integer.bitCount(tets) == 4 ? 0 : CANNOT;
        }

        /** TETS to which the three FACES at a CORNER are glued, as bits. */
        private static int neighbours(Solid s, int corner) {
            int tets = 0;
            for (int f = 0; f < 4; f++) {
                int code = s.glue[(corner & 28) + f];
                if (f != (corner & 3) && code >= 0) {
                    tets |= 1 << (code >> 5);
                }
            }
            return tets;
        }

        /** Whether no earlier place is another name of the same MOVE, so that it comes to the same. */
        boolean isFirstName(Solid s, int place) {
            if (place < THREES) {
                return s.partner(place) > place;
            }
            if (place < ONES) {
                return bones.edge[place - THREES] == place - THREES;
            }
            return place < FOURS || bones.point[place - FOURS] == place - FOURS;
        }

        /** What a MOVE that can be comes to. */
        void make(Solid from, int place, Solid to) {
            to.clear(from.tets + growth(place));
            if (place < THREES) {
                twoToThree(from, place, to);
            } else if (place < ONES) {
                threeToTwo(from, place - THREES, to);
            } else if (place < FOURS) {
                oneToFour(from, place - ONES, to);
            } else {
                fourToOne(from, place - FOURS, to);
            }
            numbering.settle(to);
        }

        /** For each CORNER x of the FACE a new TET: the old one, the far CORNER in the place of x. */
        private void twoToThree(Solid from, int face, Solid to) {
            int tet = face >> 2;
            int f = face & 3;
            int other = from.glue[face] >> 5;
            int stay = layOut(from, 1 << tet | 1 << other);
            int fresh = stay;
            for (int x = 0; x < 4; x++) {
                if (x != f) {
                    put(4 * tet + x, fresh, 0);
                    putBeyond(from.glue[face], f, x, fresh);
                    fresh++;
                }
            }
            carry(from, to);
            joinFan(to, stay, f);
        }

        /** Two new TETS: the old one, the third CORNER around the EDGE in the place of the one end, of the other. */
        private void threeToTwo(Solid from, int end, Solid to) {
            int tet = end >> 4;
            int u = end >> 2 & 3;
            int v = end & 3;
            int gone = 1 << tet;
            for (int x = 0; x < 4; x++) {
                if (x != u && x != v) {
                    gone |= 1 << (from.glue[4 * tet + x] >> 5);
                }
            }
            int stay = layOut(from, gone);
            put(4 * tet + v, stay, 0);
            put(4 * tet + u, stay + 1, 0);
            for (int x = 0; x < 4; x++) {
                if (x != u && x != v) {
                    putBeyond(from.glue[4 * tet + x], x, v, stay);
                    putBeyond(from.glue[4 * tet + x], x, u, stay + 1);
                }
            }
            carry(from, to);
            to.join(4 * stay + u, stay + 1, SWAP[4 * u + v]);
        }

        /** For each CORNER x a new TET: the old one, the new CORNER in the place of x. */
        private void oneToFour(Solid from, int tet, Solid to) {
            int stay = layOut(from, 1 << tet);
            for (int x = 0; x < 4; x++) {
                put(4 * tet + x, stay + x, 0);
            }
            carry(from, to);
            joinFan(to, stay, 4);
        }

        /** The new TET: an old one, the fourth CORNER around the POINT in the place of the POINT. */
        private void fourToOne(Solid from, int corner, Solid to) {
            int tet = corner >> 2;
            int v = corner & 3;
            int stay = layOut(from, neighbours(from, corner) | 1 << tet);
            put(corner, stay, 0);
            for (int x = 0; x < 4; x++) {
                if (x != v) {
                    putBeyond(from.glue[4 * tet + x], x, v, stay);
                }
            }
            carry(from, to);
        }

        /** FACES of TETS that stay are told to stay, those of TETS that go to have no home yet: how many stay. */
        private int layOut(Solid from, int gone) {
            int stay = 0;
            for (int tet = 0; tet < from.tets; tet++) {
                boolean goes = (gone >> tet & 1) == 1;
                for (int f = 0; f < 4; f++) {
                    put(4 * tet + f, goes ? NONE : stay, 0);
                }
                if (!goes) {
                    stay++;
                }
            }
            return stay;
        }

        private void put(int face, int newHome, int newTurn) {
            home[face] = newHome;
            turn[face] = newTurn;
        }

        /**
         * The TET beyond FACE x of an old TET (glued by code) has a FACE that is the image of y; a new TET has it
         * then. That one bears the old TET's names but that the far CORNER stands for the one that it has not.
         */
        private void putBeyond(int code, int x, int y, int newHome) {
            int glue = code & 31;
            put(4 * (code >> 5) + IMAGE[4 * glue + y], newHome, AFTER[24 * SWAP[4 * x + y] + INVERSE[glue]]);
        }

        /** Glues the FACES that have a home as they were. */
        private void carry(Solid from, Solid to) {
            for (int face = 0; face < 4 * from.tets; face++) {
                int there = from.partner(face);
                if (home[face] < 0 || there < 0 || home[there] < 0) {
                    continue;
                }
                int out = AFTER[24 * (from.glue[face] & 31) + INVERSE[turn[face]]];
                int newFace = 4 * home[face] + IMAGE[4 * turn[face] + (face & 3)];
                to.glue[newFace] = home[there] << 5 | AFTER[24 * turn[there] + out];
            }
        }

        /**
         * Glues new TETS, one for each CORNER but one, each to each: the one has the new CORNER in the place of x,
         * the other in the place of y.
         */
        private static void joinFan(Solid to, int first, int but) {
            for (int x = 0; x < 4; x++) {
                for (int y = x + 1; y < 4; y++) {
                    if (x != but && y != but) {
                        int one = first + (x > but ? x - 1 : x);
                        int other = first + (y > but ? y - 1 : y);
                        to.join(4 * one + y, other, SWAP[4 * x + y]);
                    }
                }
            }
        }
    }

    /** Different solids, in the order in which they were found. */
    private static final class Found {
        /** Above the 30 of a search, and above what one MOVE can come to (35, of 7 TETS). */
        private static final int MOST = 40;

        int size;
        private final int[] tets = new int[MOST];
        private final int[] moves = new int[MOST];
        private final int[] glue = new int[MOST * MOST_FACES];

        int movesTo(int i) {
            return i >= 0 && i < size ? moves[i] : 0;
        }

        void load(int i, Solid to) {
            if (i >= 0 && i < size) {
                to.tets = tets[i];
                System.arraycopy(glue, i * MOST_FACES, to.glue, 0, MOST_FACES);
            }
        }

        /** False if it was found already. */
        boolean add(Solid s, int movesThere) {
            for (int i = 0; i < size; i++) {
                if (holds(i, s)) {
                    return false;
                }
            }
            if (size >= MOST) {
                return false;
            }
            tets[size] = s.tets;
            moves[size] = movesThere;
            System.arraycopy(s.glue, 0, glue, size * MOST_FACES, MOST_FACES);
            size++;
            return true;
        }

        private boolean holds(int i, Solid s) {
            if (tets[i] != s.tets) {
                return false;
            }
            for (int face = 0; face < 4 * s.tets; face++) {
                if (glue[i * MOST_FACES + face] != s.glue[face]) {
                    return false;
                }
            }
            return true;
        }
    }

    /** Looks where MOVES lead. */
    private static final class Search {
        private final Mover mover;
        private final Skeleton bones;
        private final Solid at = new Solid();
        private final Solid next = new Solid();
        final Found found = new Found();

        /** By kind: how many places there are where it can be. */
        final int[] places = new int[KINDS];

        Search(Mover mover, Skeleton bones) {
            this.mover = mover;
            this.bones = bones;
        }

        /** Counts the places where MOVES can be: how many different solids they come to. */
        int reach(Solid from) {
            bones.read(from);
            found.size = 0;
            Arrays.fill(places, 0);
            for (int place = 0; place < PLACES; place++) {
                if (mover.refusal(from, place) < 0) {
                    continue;
                }
                places[Mover.kindOf(place)]++;
                if (mover.isFirstName(from, place)) {
                    mover.make(from, place, next);
                    found.add(next, 1);
                }
            }
            return found.size;
        }

        /** The first place from which one MOVE leads to a solid, or NONE. */
        int placeTo(Solid from, Solid to) {
            bones.read(from);
            for (int place = 0; place < PLACES; place++) {
                if (from.tets + Mover.growth(place) == to.tets && isNew(from, place)) {
                    mover.make(from, place, next);
                    if (next.isLike(to)) {
                        return place;
                    }
                }
            }
            return NONE;
        }

        private boolean isNew(Solid from, int place) {
            return mover.refusal(from, place) == 0 && mover.isFirstName(from, place);
        }

        /** The fewest MOVES to a solid, or NONE; it ends with the one that was found last. */
        int fewest(Solid from, Solid to, int n, int most) {
            found.size = 0;
            found.add(from, 0);
            if (from.isLike(to)) {
                return 0;
            }
            for (int i = 0; i < found.size && i < n; i++) {
                found.load(i, at);
                if (spread(found.movesTo(i) + 1, to, n, most)) {
                    return found.movesTo(i) + 1;
                }
            }
            return NONE;
        }

        /** Finds what one MOVE more comes to: true if it found the solid that is looked for, its last one then. */
        private boolean spread(int moves, Solid to, int n, int most) {
            bones.read(at);
            for (int place = 0; place < PLACES && found.size < n; place++) {
                if (at.tets + Mover.growth(place) <= most && isNew(at, place)) {
                    mover.make(at, place, next);
                    if (found.add(next, moves) && next.isLike(to)) {
                        return true;
                    }
                }
            }
            return false;
        }
    }

    /** The GROUP: numbers of glued pairs beside a tree of TETS, with a row of sums for each EDGE that is not FREE. */
    private static final class Walks {
        private static final int MOST_PAIRS = 9;
        private static final int MOST_EDGES = 48;

        /** Far above what any solid needs; each round makes the corner number smaller or ends. */
        private static final int MOST_ROUNDS = 10000;

        /** By FACE: 0, or 1 and the number of its pair, below 0 if it is gone through back. */
        private final int[] step = new int[MOST_FACES];
        private final long[] sum = new long[MOST_EDGES * MOST_PAIRS];
        private int pairs;
        private int rows;

        int torsions;
        final long[] torsion = new long[MOST_PAIRS];

        int rank(Solid s, Skeleton bones) {
            namePairs(s);
            writeSums(s, bones);
            torsions = 0;
            int bound = 0;
            for (int k = 0; k < pairs && k < rows; k++) {
                if (!clearCorner(k)) {
                    break;
                }
                bound++;
                long left = Math.abs(sum[MOST_PAIRS * k + k]);
                if (left > 1) {
                    torsion[torsions] = left;
                    torsions++;
                }
            }
            return pairs - bound;
        }

        private void namePairs(Solid s) {
            Arrays.fill(step, 0);
            pairs = 0;
            int reached = 1;
            // The numbering reaches each TET from a lesser one: these pairs are a tree.
            for (int face = 0; face < 4 * s.tets; face++) {
                int there = s.partner(face);
                if (there <= face) {
                    continue;
                }
                int to = there >> 2;
                if ((reached >> to & 1) == 0) {
                    reached |= 1 << to;
                } else if (pairs < MOST_PAIRS) {
                    pairs++;
                    step[face] = pairs;
                    step[there] = -pairs;
                }
            }
        }

        private void writeSums(Solid s, Skeleton bones) {
            Arrays.fill(sum, 0L);
            rows = 0;
            for (int end = 0; end < 16 * s.tets; end++) {
                if (bones.edge[end] == end && !bones.isFree[end] && rows < MOST_EDGES) {
                    goRound(s, end, bones.degree[end]);
                    rows++;
                }
            }
        }

        /** Once round an EDGE from TET to TET: out through FACE x, and in the next one through the image of FACE y. */
        private void goRound(Solid s, int end, int degree) {
            int tet = end >> 4;
            int u = end >> 2 & 3;
            int v = end & 3;
            int x = leastBut(u, v);
            int y = 6 - u - v - x;
            for (int i = 0; i < degree; i++) {
                int code = s.glue[4 * tet + x];
                if (code < 0) {
                    return;
                }
                int number = step[4 * tet + x];
                if (number != 0) {
                    sum[MOST_PAIRS * rows + Math.abs(number) - 1] += number > 0 ? 1 : -1;
                }
                tet = code >> 5;
                int turn = 4 * (code & 31);
                int in = IMAGE[turn + x];
                x = IMAGE[turn + y];
                y = in;
            }
        }

        private static int leastBut(int u, int v) {
            for (int x = 0; x < 2; x++) {
                if (x != u && x != v) {
                    return x;
                }
            }
            return 2;
        }

        /** Makes number k of the diagonal go into all the rest, alone in its row and column: false if only 0 is left. */
        private boolean clearCorner(int k) {
            for (int round = 0; round < MOST_ROUNDS; round++) {
                if (!bringLeast(k)) {
                    return false;
                }
                reduceRows(k);
                reduceColumns(k);
                if (!isAlone(k)) {
                    continue;
                }
                int undivided = rowNotDivided(k);
                if (undivided < 0) {
                    return true;
                }
                // It leaves a rest in the corner's row that is smaller than the corner.
                addRow(undivided, k);
            }
            return true;
        }

        private boolean bringLeast(int k) {
            int row = NONE;
            int column = NONE;
            long least = 0;
            for (int i = k; i < rows; i++) {
                for (int j = k; j < pairs; j++) {
                    long here = Math.abs(sum[MOST_PAIRS * i + j]);
                    if (here != 0 && (row < 0 || here < least)) {
                        least = here;
                        row = i;
                        column = j;
                    }
                }
            }
            if (row < 0) {
                return false;
            }
            for (int j = 0; j < pairs; j++) {
                trade(MOST_PAIRS * k + j, MOST_PAIRS * row + j);
            }
            for (int i = 0; i < rows; i++) {
                trade(MOST_PAIRS * i + k, MOST_PAIRS * i + column);
            }
            return true;
        }

        private void trade(int a, int b) {
            long held = sum[a];
            sum[a] = sum[b];
            sum[b] = held;
        }

        private void reduceRows(int k) {
            long corner = sum[MOST_PAIRS * k + k];
            for (int i = k + 1; i < rows && corner != 0; i++) {
                long times = sum[MOST_PAIRS * i + k] / corner;
                for (int j = k; j < pairs && times != 0; j++) {
                    sum[MOST_PAIRS * i + j] -= times * sum[MOST_PAIRS * k + j];
                }
            }
        }

        private void reduceColumns(int k) {
            long corner = sum[MOST_PAIRS * k + k];
            for (int j = k + 1; j < pairs && corner != 0; j++) {
                long times = sum[MOST_PAIRS * k + j] / corner;
                for (int i = k; i < rows && times != 0; i++) {
                    sum[MOST_PAIRS * i + j] -= times * sum[MOST_PAIRS * i + k];
                }
            }
        }

        private boolean isAlone(int k) {
            for (int i = k + 1; i < rows; i++) {
                if (sum[MOST_PAIRS * i + k] != 0) {
                    return false;
                }
            }
            for (int j = k + 1; j < pairs; j++) {
                if (sum[MOST_PAIRS * k + j] != 0) {
                    return false;
                }
            }
            return true;
        }

        /** The first row below with a number that the corner does not go into, or NONE. */
        private int rowNotDivided(int k) {
            long corner = sum[MOST_PAIRS * k + k];
            for (int i = k + 1; i < rows && corner != 0; i++) {
                for (int j = k + 1; j < pairs; j++) {
                    if (sum[MOST_PAIRS * i + j] % corner != 0) {
                        return i;
                    }
                }
            }
            return NONE;
        }

        private void addRow(int from, int to) {
            for (int j = 0; j < pairs; j++) {
                sum[MOST_PAIRS * to + j] += sum[MOST_PAIRS * from + j];
            }
        }
    }

    /** THE TEXT, and what was read of it. */
    private static final class Script {
        private static final int MOST_SIGNS = 80;
        private static final int MOST_STEPS = 40;

        int length;
        private final int[] text = new int[MOST_SIGNS];

        /** A trail that was read: of each step its kind and three digits, 0 for those that it has not. */
        int steps;
        final int[] step = new int[4 * MOST_STEPS];

        int append(int v) {
            if (length + 4 > MOST_SIGNS) {
                return NONE;
            }
            for (int shift = 24; shift >= 0; shift -= 8) {
                text[length] = v >> shift & 255;
                length++;
            }
            return length;
        }

        boolean cut(int n) {
            if (n < 0 || n > length) {
                return false;
            }
            length = n;
            return true;
        }

        /** Behind its end there is a sign that can stand nowhere. */
        private int signAt(int at) {
            return at >= 0 && at < length ? text[at] : NONE;
        }

        /** A digit below a bound, or NONE. */
        private int digitAt(int at, int bound) {
            int digit = signAt(at) - '0';
            return digit >= 0 && digit < bound ? digit : NONE;
        }

        /** How many TETS, or -1 and less by the place of the sign that can't stand there. */
        int readSolid(Solid into) {
            int tets = digitAt(0, MOST_TETS + 1);
            if (tets < 1) {
                return -1;
            }
            into.clear(tets);
            for (int at = 1; at < length; at += 4) {
                int fault = readPair(into, at);
                if (fault >= 0) {
                    return -1 - fault;
                }
            }
            return tets;
        }

        /** Where a sign can't stand, or NONE. */
        private int readPair(Solid into, int at) {
            int tet = digitAt(at, into.tets);
            if (tet < 0) {
                return at;
            }
            int f = digitAt(at + 1, 4);
            if (f < 0 || into.glue[4 * tet + f] >= 0) {
                return at + 1;
            }
            int other = digitAt(at + 2, into.tets);
            if (other < 0) {
                return at + 2;
            }
            int turn = signAt(at + 3) - 'a';
            if (turn < 0 || turn > 23) {
                return at + 3;
            }
            int there = 4 * other + IMAGE[4 * turn + f];
            if (there == 4 * tet + f || into.glue[there] >= 0) {
                return at + 3;
            }
            into.join(4 * tet + f, other, turn);
            return NONE;
        }

        /** 0, or -1 and less by the place of the sign that can't stand there. */
        int readTrail() {
            steps = 0;
            int at = 0;
            for (int i = 0; i < MOST_STEPS && at < length; i++) {
                int kind = kindOfSign(signAt(at));
                if (kind < 0) {
                    return -1 - at;
                }
                int digits = digitsOf(kind);
                step[4 * i] = kind;
                for (int k = 1; k < 4; k++) {
                    int digit = k > digits ? 0 : digitAt(at + k, 10);
                    if (digit < 0) {
                        return -1 - at - k;
                    }
                    step[4 * i + k] = digit;
                }
                at += 1 + digits;
                steps++;
            }
            return 0;
        }

        private static int kindOfSign(int sign) {
            switch (sign) {
                case 'f':
                    return TWO_THREE;
                case 'e':
                    return THREE_TWO;
                case 't':
                    return ONE_FOUR;
                case 'p':
                    return FOUR_ONE;
                default:
                    return NONE;
            }
        }

        private static int digitsOf(int kind) {
            if (kind == ONE_FOUR) {
                return 1;
            }
            return kind == THREE_TWO ? 3 : 2;
        }
    }

    /** The ROW. */
    private static final class Told {
        /** A text that shows a solid has at most 65 signs; no call tells more. */
        private static final int MOST = 65;

        int size;
        final long[] number = new long[MOST];

        void clear() {
            size = 0;
        }

        void add(long value) {
            if (size < MOST) {
                number[size] = value;
                size++;
            }
        }

        void addFlag(boolean flag) {
            add(flag ? 1 : 0);
        }
    }

    /** What the latest changes began from; with more, the oldest is lost. */
    private static final class Past {
        private static final int MOST = 8;

        int size;
        private int next;
        private final Solid[] solids = new Solid[MOST];

        Past() {
            for (int i = 0; i < MOST; i++) {
                solids[i] = new Solid();
            }
        }

        void push(Solid s) {
            solids[next].copy(s);
            next = (next + 1) % MOST;
            size = Math.min(size + 1, MOST);
        }

        /** How many are left, or NONE if there was none. */
        int pop(Solid to) {
            if (size < 1) {
                return NONE;
            }
            next = (next + MOST - 1) % MOST;
            size--;
            to.copy(solids[next]);
            return size;
        }
    }

    /** What was heard of an EDGE. */
    private static final class Rumours {
        private static final int MOST = 8;

        int size;
        private final int[] what = new int[MOST];
        private final int[] value = new int[MOST];

        /** How many there are, or NONE. */
        int add(int newWhat, int newValue) {
            if (size >= MOST || newValue < 0 || newValue > greatest(newWhat)) {
                return NONE;
            }
            what[size] = newWhat;
            value[size] = newValue;
            size++;
            return size;
        }

        /** The greatest value that can be heard, or NONE. */
        private static int greatest(int what) {
            switch (what) {
                case 0:
                    return 48;
                case 1:
                case 2:
                case 4:
                    return 1;
                case 3:
                    return 7;
                default:
                    return NONE;
            }
        }

        boolean allFit(Skeleton bones, int edge) {
            for (int i = 0; i < size; i++) {
                if (!fitsOne(bones, edge, what[i], value[i])) {
                    return false;
                }
            }
            return true;
        }

        private static boolean fitsOne(Skeleton bones, int edge, int what, int value) {
            switch (what) {
                case 0:
                    return bones.degree[edge] >= value;
                case 1:
                    return bones.isFree[edge] == (value == 1);
                case 2:
                    return bones.isReversed(edge) == (value == 1);
                case 3:
                    return isOfTet(bones, edge, value);
                default:
                    int one = bones.point[edge >> 2];
                    int other = bones.point[edge >> 4 << 2 | edge & 3];
                    return (one == other) == (value == 1);
            }
        }

        private static boolean isOfTet(Skeleton bones, int edge, int tet) {
            for (int end = 16 * tet; end < 16 * tet + 16; end++) {
                if (bones.edge[end] == edge) {
                    return true;
                }
            }
            return false;
        }
    }
}
