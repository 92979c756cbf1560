"""Writes runs of 512 calls with the answers of model.py: python3 record.py FIRST RUNS > ../runs/recorded.txt

One line a call: its name, its arguments, '=' and the answer (true and false are 1 and 0, 'none' is NoSuchElementException);
'new' begins a new object. The calls themselves ask for ROW, counts and texts, so nothing else need be called between them.
"""
import random
import sys
from model import INDEX, PERMS, Model, NoSuchElement, as_int, can_be, inverse, move, places

MOST_CALLS = 512
KNOWN = [
    '1000g020b', '1000j020j', '1000j020n', '2000j021a031a101j', '2001a011a021a031a', '2001a011q021x031h', '2001a011a021j031s',
    '1000g', '2011q', '1020h', '2001a', '3021a032a132h', '8001a112a223a304a415a526a637a',
]
TELLING = {
    'shows', 'degree', 'point', 'edges', 'points', 'manifold', 'sides', 'group', 'trail', 'tries', 'comes', 'leads', 'simpler', 'way',
    'drawn', 'fits', 'same',
}
MOVES = ('two', 'three', 'one', 'four')
LEAST, MOST = -2 ** 31, 2 ** 31 - 1


class Full(Exception):
    pass


class Run:
    def __init__(self, seed):
        self.random = random.Random(seed)
        self.model = Model()
        self.lines = []

    def call(self, name, *a):
        if len(self.lines) >= MOST_CALLS:
            raise Full()
        try:
            answer = int(getattr(self.model, name)(*a))
        except NoSuchElement:
            answer = 'none'
        self.lines.append('%s=%s' % (' '.join([name] + list(map(str, a))), answer))
        if name in TELLING and self.random.random() < .8:
            self.look()

    def look(self):
        """The ROW, by calls; of a long one a few numbers."""
        self.call('count', 4)
        many = len(self.model.told)
        shown = range(many) if many <= 5 else sorted(self.random.sample(range(many), 5))
        for i in shown:
            self.call('row', i)

    def text(self, signs):
        if self.model.text:
            self.call('end', 0)
        signs = signs[:80]
        for at in range(0, len(signs), 4):
            v = 0
            for k in range(4):
                v = v << 8 | (ord(signs[at + k]) if at + k < len(signs) else self.random.choice([0, 48, 255]))
            self.call('sign', as_int(v))
        if len(signs) % 4:
            self.call('end', len(signs))

    def spoilt(self, signs):
        if not signs:
            return 'q'
        at = self.random.randrange(len(signs))
        if self.random.random() < .3:
            return signs[:at]
        return signs[:at] + self.random.choice('0123456789agxyftep`z/:\xff') + signs[at + 1:]

    def any_solid(self):
        r = self.random
        if r.random() < .3:
            return r.choice(KNOWN)
        tets = r.choice([1, 1, 2, 2, 3, 3, 4, 5, 6, 7, 8])
        solid = [[None] * 4 for _ in range(tets)]
        signs = [str(tets)]

        def free(t):
            return [f for f in range(4) if not solid[t][f]]

        def glue(t, f, s, g):
            p = r.choice([p for p in PERMS if p[f] == g])
            solid[t][f] = (s, p)
            solid[s][g] = (t, inverse(p))
            signs.append('%d%d%d%s' % (t, f, s, chr(97 + INDEX[p])))

        for t in range(1, tets):
            s = r.choice([s for s in range(t) if free(s)])
            glue(s, r.choice(free(s)), t, r.randrange(4))
        for _ in range(r.choice([0, 1, 2, 4, 99, 99, 99])):
            left = [(t, f) for t in range(tets) for f in free(t)]
            if len(left) < 2:
                break
            a, b = r.sample(left, 2)
            glue(*a, *b)
        return ''.join(signs)

    def good_place(self, solid):
        kind = self.random.randrange(4)
        all_of_them = [p for p in places(solid) if p[0] == kind]
        self.random.shuffle(all_of_them)
        for p in all_of_them[:12]:
            if can_be(move(solid, *p)):
                return p
        return all_of_them[0]

    def some_move(self):
        kind, a = self.good_place(self.model.now)
        if kind == 1 and self.random.random() < .5:
            a = (a[0], a[2], a[1])
        self.call(MOVES[kind], *a)

    def any_trail(self):
        solid = self.model.now
        signs = ''
        for _ in range(self.random.randrange(6)):
            kind, a = self.good_place(solid)
            if self.random.random() < .05:
                a = a[:-1] + (self.random.randrange(10),)
            signs += 'fetp'[kind] + ''.join(map(str, a))
            result = move(solid, kind, a)
            if can_be(result):
                solid = result
            elif self.random.random() < .7:
                break
        return signs

    def tet(self):
        r = self.random
        return r.randrange(len(self.model.now)) if r.random() < .9 else r.choice([-1, 8, len(self.model.now), LEAST, MOST])

    def corner(self):
        return self.random.randrange(4) if self.random.random() < .93 else self.random.choice([-1, 4, LEAST, MOST])

    def under(self):
        return self.random.randrange(2) if self.random.random() < .93 else self.random.choice([-1, 2])

    def step(self):
        r = self.random
        c = r.randrange(26)
        if c < 2:
            signs = self.any_solid()
            self.text(self.spoilt(signs) if r.random() < .2 else signs)
            self.call('solid')
        elif c < 6:
            self.some_move()
        elif c < 8:
            k = r.randrange(4)
            self.call(MOVES[k], *((self.tet(),) + tuple(self.corner() for _ in range((1, 2, 0, 1)[k]))))
        elif c < 10:
            signs = self.any_trail()
            self.text(self.spoilt(signs) if r.random() < .15 else signs)
            self.call(r.choice(['trail', 'tries']))
        elif c == 10:
            self.call(r.choice(['comes', 'simpler']))
        elif c == 11:
            self.call('leads', self.under())
        elif c == 12:
            self.call('way', self.under(), r.choice([1, 2, 5, 10, 20, 30, 30, 0, 31]), r.choice([0, 1, 2, 3, 4, 5, 6, 7, 8, 8, 9]))
        elif c == 13:
            self.call('drawn', as_int(r.getrandbits(32)), r.choice([0, 1, 2, 3, 6, 9, 12, 12, 13]))
        elif c == 14:
            for _ in range(r.choice([1, 1, 1, 2, 9])):
                self.call('undo')
        elif c == 15:
            self.call('heard', r.choice([0, 1, 2, 3, 4, 4, 5, -1]), r.choice([0, 1, 0, 1, 2, 3, 4, 7, 8, 48, 49, -1]))
        elif c == 16:
            self.call(r.choice(['fits', 'fits', 'forget']))
        elif c == 17:
            self.call(r.choice(['keep', 'same', 'same', 'again']), self.under())
        elif c == 18:
            self.sheet()
        elif c == 19:
            self.call('degree', self.tet(), self.corner(), self.corner())
        elif c == 20:
            self.call('point', self.tet(), self.corner())
        elif c == 21:
            self.call('glued', self.tet(), self.corner(), r.choice([0, 1, 2, 2, 3, -1]))
        elif c == 22:
            self.call('keep', r.randrange(2))
            for _ in range(r.randrange(1, 4)):
                self.some_move()
            self.call('leads', r.randrange(2))
            self.call('way', r.randrange(2), r.choice([5, 15, 30]), r.choice([5, 6, 8]))
        elif c == 23:
            self.call('alike')
            self.call('euler')
        else:
            self.call(r.choice(['edges', 'points', 'manifold', 'sides', 'group', 'shows']))
        if r.random() < .15:
            self.call(*r.choice([('count', r.randrange(-1, 7)), ('row', r.randrange(-1, 6))]))

    def sheet(self):
        r = self.random
        kind = r.choice([-1, 3, 4]) if r.random() < .1 else r.randrange(3)
        n = r.choice([-1, 0, 32, 33]) if r.random() < .2 else 4 * len(self.model.now) - r.choice([0, 0, 1, 2])
        if r.random() < .3:
            self.call('sheet', kind, n, as_int(r.getrandbits(32)), as_int(r.getrandbits(32)))
        else:
            top = (127, 32767, MOST, MOST, MOST, MOST)[kind]
            self.call('sheet', kind, n, r.choice([top - r.randrange(40), r.randrange(-3, 20)]), r.choice([1, 2, -1, 0]))

    def done(self):
        try:
            while True:
                self.step()
        except Full:
            return self.lines


if __name__ == '__main__':
    for number in range(int(sys.argv[1]), int(sys.argv[1]) + int(sys.argv[2])):
        print('new')
        for line in Run(number).done():
            print(line)
