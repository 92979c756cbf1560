"""Another model of GluedSolids, written from ../shared/DOC.md without a look into PlainModel.java.

It is slow and plain: classes by sets that are united, MOVES by labels of CORNERS, least rows by all NUMBERINGS.
A solid is a list of TETS, each a list of four FACES: None, or (TET, permutation). record.py writes runs with it.
Not used by .ci/run.
"""
from itertools import permutations

PERMS = list(permutations(range(4)))
INDEX = {p: i for i, p in enumerate(PERMS)}
MOST_TETS = 8


class NoSuchElement(Exception):
    pass


def inverse(p):
    q = [0] * 4
    for c in range(4):
        q[p[c]] = c
    return tuple(q)


def is_odd(p):
    return sum(1 for i in range(4) for j in range(i) if p[j] > p[i]) % 2 == 1


def as_int(x):
    x &= 0xFFFFFFFF
    return x - (1 << 32) if x >> 31 else x


class Sets:
    """Sets that are united."""

    def __init__(self):
        self.above = {}

    def find(self, x):
        self.above.setdefault(x, x)
        while self.above[x] != x:
            self.above[x] = self.above[self.above[x]]
            x = self.above[x]
        return x

    def unite(self, a, b):
        self.above[self.find(a)] = self.find(b)


# ---- solids and numberings

def hangs_together(solid):
    seen = {0}
    todo = [0]
    while todo:
        for g in solid[todo.pop()]:
            if g and g[0] not in seen:
                seen.add(g[0])
                todo.append(g[0])
    return len(seen) == len(solid)


def row_of(solid, first, names):
    """The ROW of the NUMBERING that begins with a TET and new names of its CORNERS."""
    number = {first: 0}
    name = {first: names}
    order = [first]
    row = []
    for t in order:
        q = name[t]
        for f in range(4):
            g = solid[t][inverse(q)[f]]
            if g is None:
                row.append(-1)
                continue
            s, p = g
            if s not in number:
                number[s] = len(order)
                order.append(s)
                name[s] = tuple(q[inverse(p)[c]] for c in range(4))
            new = [0] * 4
            for c in range(4):
                new[q[c]] = name[s][p[c]]
            row.append(24 * number[s] + INDEX[tuple(new)])
    return row


_least = {}


def least(solid):
    """The least ROW, and how many NUMBERINGS have it."""
    key = flat(solid)
    if key not in _least:
        if len(_least) > 100000:
            _least.clear()
        rows = [row_of(solid, t, p) for t in range(len(solid)) for p in PERMS]
        _least[key] = (min(rows), rows.count(min(rows)))
    return _least[key]


def flat(solid):
    return tuple(-1 if g is None else 24 * g[0] + INDEX[g[1]] for tet in solid for g in tet)


def settled(solid):
    row, _ = least(solid)
    return [[None if x < 0 else (x // 24, PERMS[x % 24]) for x in row[4 * t:4 * t + 4]] for t in range(len(solid))]


def shown(solid):
    out = str(len(solid))
    for t, tet in enumerate(solid):
        for f, g in enumerate(tet):
            if g and (t, f) < (g[0], g[1][f]):
                out += '%d%d%d%s' % (t, f, g[0], chr(97 + INDEX[g[1]]))
    return out


# ---- what it is

def classes(solid):
    edge, end, corner = Sets(), Sets(), Sets()
    for t, tet in enumerate(solid):
        for u in range(4):
            corner.find((t, u))
            for v in range(4):
                if u != v:
                    end.find((t, u, v))
                    edge.find((t, min(u, v), max(u, v)))
        for f, g in enumerate(tet):
            if g is None:
                continue
            s, p = g
            for u in range(4):
                if u == f:
                    continue
                corner.unite((t, u), (s, p[u]))
                for v in range(4):
                    if v not in (f, u):
                        end.unite((t, u, v), (s, p[u], p[v]))
                        edge.unite((t, min(u, v), max(u, v)), (s, min(p[u], p[v]), max(p[u], p[v])))
    return edge, end, corner


def edges(solid):
    edge, end, corner = classes(solid)
    members = {}
    for t in range(len(solid)):
        for u in range(4):
            for v in range(u + 1, 4):
                members.setdefault(edge.find((t, u, v)), []).append((t, u, v))
    out = []
    for m in members.values():
        t, u, v = m[0]
        out.append({
            'members': m,
            'degree': len(m),
            'free': any(solid[a][f] is None for a, b, c in m for f in range(4) if f not in (b, c)),
            'reversed': any(end.find((a, b, c)) == end.find((a, c, b)) for a, b, c in m),
            'at one point': corner.find((t, u)) == corner.find((t, v)),
        })
    return sorted(out, key=lambda e: e['members'][0])


def points(solid):
    _, end, corner = classes(solid)
    members = {}
    for t in range(len(solid)):
        for u in range(4):
            members.setdefault(corner.find((t, u)), []).append((t, u))
    out = []
    for m in members.values():
        side = Sets()
        is_free = False
        for t, u in m:
            for f in range(4):
                if f == u:
                    continue
                side.find((t, u, f))
                g = solid[t][f]
                if g is None:
                    is_free = True
                else:
                    side.unite((t, u, f), (g[0], g[1][u], g[1][f]))
        sides = len({side.find(x) for x in list(side.above)})
        ends = len({end.find((t, u, v)) for t, u in m for v in range(4) if v != u})
        chi = ends - sides + len(m)
        out.append({'members': m, 'size': len(m), 'ends': ends, 'chi': chi, 'round': chi == 2 and not is_free})
    return sorted(out, key=lambda p: p['members'][0])


def free_faces(solid):
    return sum(g is None for tet in solid for g in tet)


def manifold(solid):
    row = [free_faces(solid), sum(e['reversed'] for e in edges(solid)), sum(not p['round'] for p in points(solid))]
    return int(row == [0, 0, 0]), row


def sides(solid):
    for ones in range(0, 1 << len(solid), 2):
        if all(g is None or is_odd(g[1]) == ((ones >> t ^ ones >> g[0]) & 1 == 0) for t, tet in enumerate(solid) for g in tet):
            return 1, [ones]
    return 0, []


def group(solid):
    number = {}
    many = 0
    for t, tet in enumerate(solid):
        for f, g in enumerate(tet):
            if g and (t, f) < (g[0], g[1][f]):
                number[(t, f)] = (many, 1)
                number[(g[0], g[1][f])] = (many, -1)
                many += 1
    rows = []
    # A tree from the last TET on, by its greatest FACES: any tree comes to the same.
    seen = {len(solid) - 1}
    todo = [len(solid) - 1]
    while todo:
        t = todo.pop()
        for f in (3, 2, 1, 0):
            g = solid[t][f]
            if g and g[0] not in seen:
                seen.add(g[0])
                todo.append(g[0])
                rows.append([int(k == number[(t, f)][0]) for k in range(many)])
    for e in edges(solid):
        if e['free']:
            continue
        t, u, v = e['members'][0]
        x, y = [f for f in range(4) if f not in (u, v)]
        begin = (t, {u, v}, x)
        row = [0] * many
        while True:
            k, sign = number[(t, x)]
            row[k] += sign
            s, p = solid[t][x]
            t, u, v, x, y = s, p[u], p[v], p[y], p[x]
            if (t, {u, v}, x) == begin:
                break
        rows.append(row)
    return diagonal(rows, many)


def diagonal(rows, many):
    a = [r[:] for r in rows]
    found = []
    k = 0
    while k < min(len(a), many):
        left = [(abs(a[i][j]), i, j) for i in range(k, len(a)) for j in range(k, many) if a[i][j]]
        if not left:
            break
        _, i, j = min(left)
        a[k], a[i] = a[i], a[k]
        for r in a:
            r[k], r[j] = r[j], r[k]
        for i in range(k + 1, len(a)):
            times = a[i][k] // a[k][k]
            a[i] = [x - times * y for x, y in zip(a[i], a[k])]
        for j in range(k + 1, many):
            times = a[k][j] // a[k][k]
            for r in a:
                r[j] -= times * r[k]
        if any(a[i][k] for i in range(k + 1, len(a))) or any(a[k][k + 1:]):
            continue
        bad = [i for i in range(k + 1, len(a)) if any(x % a[k][k] for x in a[i][k + 1:])]
        if bad:
            a[k] = [x + y for x, y in zip(a[k], a[bad[0]])]
            continue
        found.append(abs(a[k][k]))
        k += 1
    return many - len(found), [x for x in found if x > 1]


# ---- moves: the CORNERS of the TETS that go, and of those that come, bear labels

def home(fresh, labels, f):
    """CORNERS of an old FACE f, to CORNERS of the new TET that has it then."""
    return {c: fresh.index(labels[c]) for c in range(4) if c != f}


def replaced(solid, gone, fresh, homes):
    """TETS that go make room for fresh ones (labels of four CORNERS each); homes: of each old FACE outside."""
    stay = [t for t in range(len(solid)) if t not in gone]
    out = [[None] * 4 for _ in range(len(stay) + len(fresh))]

    def place(t, f):
        if t in stay:
            return stay.index(t), {c: c for c in range(4) if c != f}
        if (t, f) in homes:
            k, names = homes[(t, f)]
            return len(stay) + k, names
        return None

    for t, tet in enumerate(solid):
        for f, g in enumerate(tet):
            here = place(t, f)
            there = place(g[0], g[1][f]) if g else None
            if here is None or there is None:
                continue
            p = {here[1][c]: there[1][g[1][c]] for c in range(4) if c != f}
            x = ({0, 1, 2, 3} - set(p)).pop()
            p[x] = ({0, 1, 2, 3} - set(p.values())).pop()
            out[here[0]][x] = (there[0], tuple(p[c] for c in range(4)))
    for i, one in enumerate(fresh):
        for j, other in enumerate(fresh):
            if i == j:
                continue
            x = [c for c in range(4) if one[c] not in other][0]
            y = [c for c in range(4) if other[c] not in one][0]
            p = tuple(y if c == x else other.index(one[c]) for c in range(4))
            out[len(stay) + i][x] = (len(stay) + j, p)
    for t, tet in enumerate(out):
        for f, g in enumerate(tet):
            assert g is None or out[g[0]][g[1][f]] == (t, inverse(g[1]))
    return settled(out)


def two_three(solid, t, f):
    g = solid[t][f]
    if g is None or g[0] == t:
        return -2
    if len(solid) + 1 > MOST_TETS:
        return -3
    s, p = g
    mine = {c: 'near' if c == f else c for c in range(4)}
    theirs = {p[c]: 'far' if c == f else c for c in range(4)}
    fresh = []
    homes = {}
    for k, x in enumerate(c for c in range(4) if c != f):
        fresh.append(['near', 'far'] + [c for c in range(4) if c not in (f, x)])
        homes[(t, x)] = (k, home(fresh[k], mine, x))
        homes[(s, p[x])] = (k, home(fresh[k], theirs, p[x]))
    return replaced(solid, {t, s}, fresh, homes)


def three_two(solid, t, u, v):
    e = [e for e in edges(solid) if (t, min(u, v), max(u, v)) in e['members']][0]
    if e['free'] or e['reversed'] or e['degree'] != 3 or len({m[0] for m in e['members']}) != 3:
        return -2
    x, y = [c for c in range(4) if c not in (u, v)]
    labels = {t: {u: 'u', v: 'v', x: 'x', y: 'y'}}
    s, p = solid[t][y]
    labels[s] = {p[u]: 'u', p[v]: 'v', p[x]: 'x', p[y]: 'z'}
    s, p = solid[t][x]
    labels[s] = {p[u]: 'u', p[v]: 'v', p[y]: 'y', p[x]: 'z'}
    fresh = [list('uxyz'), list('vxyz')]
    homes = {}
    for a, names in labels.items():
        for c in range(4):
            if names[c] == 'v':
                homes[(a, c)] = (0, home(fresh[0], names, c))
            if names[c] == 'u':
                homes[(a, c)] = (1, home(fresh[1], names, c))
    return replaced(solid, set(labels), fresh, homes)


def one_four(solid, t):
    if len(solid) + 3 > MOST_TETS:
        return -3
    mine = {c: c for c in range(4)}
    fresh = [['new'] + [c for c in range(4) if c != x] for x in range(4)]
    return replaced(solid, {t}, fresh, {(t, x): (x, home(fresh[x], mine, x)) for x in range(4)})


def four_one(solid, t, v):
    point = [p for p in points(solid) if (t, v) in p['members']][0]
    corner = dict(point['members'])
    if not point['round'] or point['size'] != 4 or len(corner) != 4:
        return -2
    for a in corner:
        for b in corner:
            if a != b and sum(1 for f in range(4) if f != corner[a] and solid[a][f] and solid[a][f][0] == b) != 1:
                return -2
    labels = {t: {c: 'point' if c == v else c for c in range(4)}}
    for f in range(4):
        if f != v:
            s, p = solid[t][f]
            labels[s] = {p[c]: 'point' if c == v else 'far' if c == f else c for c in range(4)}
    fresh = ['far'] + [c for c in range(4) if c != v]
    return replaced(solid, set(labels), [fresh], {(a, corner[a]): (0, home(fresh, labels[a], corner[a])) for a in labels})


def move(solid, kind, a):
    """What a MOVE comes to, or the answer below 0."""
    if not 0 <= a[0] < len(solid) or any(not 0 <= c < 4 for c in a[1:]) or len(set(a[1:])) < len(a[1:]):
        return -1
    return (two_three, three_two, one_four, four_one)[kind](solid, *a)


def places(solid):
    tets = range(len(solid))
    for t in tets:
        for f in range(4):
            yield 0, (t, f)
    for t in tets:
        for u in range(4):
            for v in range(u + 1, 4):
                yield 1, (t, u, v)
    for t in tets:
        yield 2, (t,)
    for t in tets:
        for v in range(4):
            yield 3, (t, v)


def can_be(result):
    return not isinstance(result, int)


class Model:
    def __init__(self):
        self.now = [[None] * 4]
        self.text = []
        self.told = []
        self.kept = [None, None]
        self.past = []
        self.rumours = []

    def _change(self, solid):
        self.past = (self.past + [self.now])[-8:]
        self.now = solid

    def sign(self, v):
        if len(self.text) + 4 > 80:
            return -1
        self.text += [v >> shift & 255 for shift in (24, 16, 8, 0)]
        return len(self.text)

    def end(self, n):
        if not 0 <= n <= len(self.text):
            return False
        self.text = self.text[:n]
        return True

    def solid(self):
        signs, self.text = ''.join(map(chr, self.text)), []

        def digit(at, below):
            return at < len(signs) and signs[at] in '0123456789'[:below]

        if not digit(0, 9) or signs[0] == '0':
            return -1
        tets = int(signs[0])
        solid = [[None] * 4 for _ in range(tets)]
        for at in range(1, len(signs), 4):
            if not digit(at, tets):
                return -1 - at
            t = int(signs[at])
            if not digit(at + 1, 4) or solid[t][int(signs[at + 1])]:
                return -2 - at
            f = int(signs[at + 1])
            if not digit(at + 2, tets):
                return -3 - at
            s = int(signs[at + 2])
            if at + 3 >= len(signs) or not 'a' <= signs[at + 3] <= 'x':
                return -4 - at
            p = PERMS[ord(signs[at + 3]) - ord('a')]
            if solid[s][p[f]] or (s, p[f]) == (t, f):
                return -4 - at
            solid[t][f] = (s, p)
            solid[s][p[f]] = (t, inverse(p))
        if not hangs_together(solid):
            return -200
        self._change(settled(solid))
        return tets

    def _has(self, t, *corners):
        return 0 <= t < len(self.now) and all(0 <= c < 4 for c in corners)

    def glued(self, t, f, what):
        if not self._has(t, f) or not 0 <= what <= 2:
            raise NoSuchElement()
        g = self.now[t][f]
        return -1 if g is None else (g[0], INDEX[g[1]], g[1][f])[what]

    def shows(self):
        self.told = [ord(c) for c in shown(self.now)]
        return len(self.told)

    def sheet(self, kind, n, f, step):
        if kind not in (0, 1, 2, 3) or n > 32:
            return -1
        if kind == 3:
            return -3
        if n < 0:
            return -2
        bits = (8, 16, 32)[kind]
        entries = [f + i * step for i in range(n)]
        is_below = [e >> bits - 1 & 1 == 1 for e in entries]
        solid = [tet[:] for tet in self.now]
        for t, tet in enumerate(self.now):
            for x, g in enumerate(tet):
                if g and (4 * t + x >= n or is_below[4 * t + x]):
                    solid[t][x] = None
                    solid[g[0]][g[1][x]] = None
        if not hangs_together(solid):
            return -4
        self.now = settled(solid)
        return free_faces(self.now)

    def degree(self, t, u, v):
        if not self._has(t, u, v) or u == v:
            return -1
        e = [e for e in edges(self.now) if (t, min(u, v), max(u, v)) in e['members']][0]
        self.told = [int(e['free']), int(e['reversed'])]
        return e['degree']

    def point(self, t, v):
        if not self._has(t, v):
            return -1
        p = [p for p in points(self.now) if (t, v) in p['members']][0]
        self.told = [p['ends'], p['chi'], int(p['round'])]
        return p['size']

    def edges(self):
        all_of_them = edges(self.now)
        degrees = [e['degree'] for e in all_of_them]
        low, high = min(degrees), max(degrees)
        self.told = [low, degrees.count(low), high, degrees.count(high), sum(e['reversed'] for e in all_of_them)]
        return len(all_of_them)

    def points(self):
        all_of_them = points(self.now)
        self.told = [sum(p['round'] for p in all_of_them), min(p['chi'] for p in all_of_them)]
        return len(all_of_them)

    def manifold(self):
        answer, self.told = manifold(self.now)
        return answer

    def sides(self):
        answer, self.told = sides(self.now)
        return answer

    def group(self):
        answer, self.told = group(self.now)
        return answer

    def euler(self):
        faces = free_faces(self.now) + (4 * len(self.now) - free_faces(self.now)) // 2
        return 100 + len(points(self.now)) - len(edges(self.now)) + faces - len(self.now)

    def alike(self):
        return least(self.now)[1]

    def _move(self, kind, *a):
        result = move(self.now, kind, a)
        if not can_be(result):
            return result
        self._change(result)
        return len(result)

    def two(self, t, f):
        return self._move(0, t, f)

    def three(self, t, u, v):
        return self._move(1, t, u, v)

    def one(self, t):
        return self._move(2, t)

    def four(self, t, v):
        return self._move(3, t, v)

    def _steps(self):
        signs, self.text = ''.join(map(chr, self.text)), []
        steps = []
        at = 0
        while at < len(signs):
            kind = 'fetp'.find(signs[at])
            if kind < 0:
                return -1 - at
            digits = (2, 3, 1, 2)[kind]
            for k in range(at + 1, at + digits + 1):
                if k >= len(signs) or signs[k] not in '0123456789':
                    return -1 - k
            steps.append((kind, tuple(map(int, signs[at + 1:at + digits + 1]))))
            at += digits + 1
        return steps

    def _follow(self, steps):
        solid = self.now
        for done, (kind, a) in enumerate(steps):
            result = move(solid, kind, a)
            if not can_be(result):
                return solid, done
            solid = result
        return solid, len(steps)

    def trail(self):
        steps = self._steps()
        if not can_be(steps):
            return steps
        solid, done = self._follow(steps)
        if done > 0:
            self._change(solid)
        self.told = [int(done < len(steps)), len(solid)]
        return done

    def tries(self):
        steps = self._steps()
        if not can_be(steps):
            return steps
        solid, done = self._follow(steps)
        self.told = [done, int(solid == self.now)]
        return len(solid)

    def comes(self):
        many = [0] * 4
        solids = set()
        for kind, a in places(self.now):
            result = move(self.now, kind, a)
            if can_be(result):
                many[kind] += 1
                solids.add(flat(result))
        self.told = many
        return len(solids)

    def leads(self, i):
        if i not in (0, 1):
            return -1
        for kind, a in places(self.now):
            if self.kept[i] is not None and move(self.now, kind, a) == self.kept[i]:
                self.told = list(a)
                return kind
        return -2

    def simpler(self):
        solid = self.now
        done = 0
        while True:
            can = [(kind != 3, k, move(solid, kind, a)) for k, (kind, a) in enumerate(places(solid)) if kind in (1, 3)]
            can = [c for c in can if can_be(c[2])]
            if not can:
                break
            solid = min(can)[2]
            done += 1
        if done > 0:
            self._change(solid)
        self.told = [done]
        return len(solid)

    def way(self, i, n, most):
        if i not in (0, 1) or not 1 <= n <= 30 or not 1 <= most <= 8:
            return -1
        if self.kept[i] is None:
            return -3
        found = [self.now]
        moves = [0]
        at = 0
        while at < len(found):
            for kind, a in places(found[at]):
                result = move(found[at], kind, a)
                if len(found) < n and can_be(result) and len(result) <= most and result not in found:
                    found.append(result)
                    moves.append(moves[at] + 1)
            at += 1
        if self.kept[i] not in found:
            return -2
        at = found.index(self.kept[i])
        self.told = [at + 1]
        return moves[at]

    def drawn(self, seed, n):
        if not 1 <= n <= 12:
            return -1
        state = seed & 0xFFFFFFFF
        solid = self.now
        done = 0
        for _ in range(n):
            draws = []
            for bound in (4, 8, 4, 4):
                if bound == 4 and draws and len(draws) == (3, 4, 2, 3)[draws[0]]:
                    break
                state = (state * 1103515245 + 12345) & 0xFFFFFFFF
                draws.append(state // 65536 % bound)
            result = move(solid, draws[0], tuple(draws[1:]))
            if can_be(result):
                solid = result
                done += 1
        self.told = [done, manifold(solid)[0]]
        return len(solid)

    def undo(self):
        if not self.past:
            return -1
        self.now = self.past.pop()
        return len(self.past)

    def heard(self, what, v):
        most = {0: 48, 1: 1, 2: 1, 3: 7, 4: 1}
        if what not in most or not 0 <= v <= most[what] or len(self.rumours) >= 8:
            return -1
        self.rumours.append((what, v))
        return len(self.rumours)

    def forget(self):
        were = len(self.rumours)
        self.rumours = []
        return were

    def fits(self):
        def fit(e, what, v):
            if what == 0:
                return e['degree'] >= v
            if what == 3:
                return any(m[0] == v for m in e['members'])
            return e[{1: 'free', 2: 'reversed', 4: 'at one point'}[what]] == (v == 1)

        fitting = [e for e in edges(self.now) if all(fit(e, what, v) for what, v in self.rumours)]
        self.told = list(fitting[0]['members'][0]) if fitting else []
        return len(fitting)

    def keep(self, i):
        if i not in (0, 1):
            return False
        self.kept[i] = self.now
        return True

    def again(self, i):
        if i not in (0, 1) or self.kept[i] is None:
            return False
        self.now = self.kept[i]
        self.past = []
        return True

    def same(self, i):
        if i not in (0, 1):
            return -1
        if self.kept[i] is None:
            return -2
        self.told = [len(self.kept[i])]
        return int(self.now == self.kept[i])

    def count(self, what):
        counts = [len(self.now), free_faces(self.now), len(self.past), len(self.rumours), len(self.told), len(self.text)]
        return counts[what] if 0 <= what <= 5 else -1

    def row(self, i):
        if not 0 <= i < len(self.told):
            raise NoSuchElement()
        return self.told[i]
