import java.io.ByteArrayOutputStream;
import java.util.ArrayList;
import java.util.List;

/** The model's logs: events to bytes and back. */
final class ModelLog {
    record Event(int kind, long at, long a, int b) {
        boolean brings(Event it) {
            return kind == it.kind && a == it.a && b == it.b;
        }
    }

    private static final class Fault extends RuntimeException {
        final int code;

        Fault(int kind, int place) {
            code = kind + 8 * place;
        }
    }

    private final byte[] log;
    private int at;
    final List<Event> events = new ArrayList<>();

    ModelLog(byte[] log) {
        this.log = log;
    }

    private static long difference(List<Event> all, int i) {
        return all.get(i).at - (i == 0 ? 0 : all.get(i - 1).at);
    }

    // ---- packing

    private static void varint(ByteArrayOutputStream out, long v) {
        if (v < 128) {
            out.write((int) v);
        } else {
            out.write((int) (v % 128) + 128);
            varint(out, v / 128);
        }
    }

    private static void bytes(ByteArrayOutputStream out, long v, int n) {
        for (int i = n - 1; i >= 0; i--) {
            out.write((int) (v >>> 8 * i));
        }
    }

    static byte[] pack(List<Event> all) {
        ByteArrayOutputStream out = new ByteArrayOutputStream();
        varint(out, all.size());
        for (int i = 0; i < all.size(); i++) {
            Event it = all.get(i);
            int n = 0;
            while (i > 0 && i + n < all.size() && all.get(i + n).brings(all.get(i - 1))
                    && difference(all, i + n) == difference(all, i - 1)) {
                n++;
            }
            if (n > 0) {
                out.write(5 + (n < 16 ? 16 * n : 0));
                if (n > 15) {
                    varint(out, n);
                }
                i += n - 1;
            } else {
                entry(out, all, i, it);
            }
        }
        return out.toByteArray();
    }

    private static void entry(ByteArrayOutputStream out, List<Event> all, int i, Event it) {
        boolean same = difference(all, i) == (i == 0 ? 0 : difference(all, i - 1));
        List<Event> before = new ArrayList<>();
        for (int j = i - 1; j >= 0; j--) {
            if (all.get(j).kind == it.kind) {
                before.add(all.get(j));
            }
        }
        int k = 0;
        for (int j = Math.min(20, before.size()); j >= 1; j--) {
            if (before.get(j - 1).brings(it)) {
                k = j;
            }
        }
        boolean again = it.kind == 1 && it.b > 1 && k > 0;
        boolean asFar = it.kind == 3 && !before.isEmpty() && before.get(0).a == it.a;
        int x = it.kind == 0 || it.kind == 2 ? (int) it.a : it.kind == 1 && !again ? it.b : asFar ? 1 : 0;
        out.write(it.kind + (same ? 8 : 0) + 16 * x);
        if (!same) {
            varint(out, difference(all, i));
        }
        if (again) {
            varint(out, k);
        } else if (it.kind == 1) {
            bytes(out, it.a, it.b);
        } else if (it.kind == 2) {
            out.write(it.b);
        } else if (it.kind == 3 && !asFar) {
            varint(out, it.a);
        } else if (it.kind == 4) {
            bytes(out, it.a, 4);
        }
    }

    // ---- reading

    /** How many events there are, or -1 - (the fault + 8 * its place). */
    int read() {
        try {
            long said = number();
            if (said > 2048) {
                throw new Fault(6, 0);
            }
            while (events.size() < said) {
                one(said);
            }
            if (at < log.length) {
                throw new Fault(7, at);
            }
            return events.size();
        } catch (Fault fault) {
            return -1 - fault.code;
        }
    }

    private int one() {
        if (at >= log.length) {
            throw new Fault(2, log.length);
        }
        at++;
        return log[at - 1] & 255;
    }

    private long number() {
        java.math.BigInteger v = java.math.BigInteger.ZERO;
        for (int i = 0; i < 7; i++) {
            int it = one();
            v = v.add(java.math.BigInteger.valueOf(it & 127).shiftLeft(7 * i));
            if (it < 128) {
                if (it == 0 && i > 0 || v.compareTo(java.math.BigInteger.ONE.shiftLeft(40)) > 0) {
                    throw new Fault(3, at - 1);
                }
                return v.longValue();
            }
        }
        throw new Fault(3, at - 1);
    }

    private void one(long said) {
        int place = at;
        int head = one();
        int kind = head % 8;
        boolean same = head / 8 % 2 == 1;
        int x = head / 16;
        if (kind > 5 || kind == 1 && x > 8 || kind == 3 && x > 1 || kind == 4 && x != 0 || kind == 5 && same) {
            throw new Fault(1, place);
        }
        int had = events.size();
        Event latest = had == 0 ? null : events.get(had - 1);
        if (kind == 5) {
            repeat(place, x, said, latest);
            return;
        }
        long difference = !same ? number() : had == 0 ? 0 : difference(events, had - 1);
        long when = difference + (had == 0 ? 0 : latest.at);
        int first = at;
        if (kind == 0) {
            events.add(new Event(0, when, x, 0));
        } else if (kind == 1 && x == 0 || kind == 3 && x == 1) {
            long k = kind == 3 ? 1 : number();
            if (k == 0) {
                throw new Fault(5, first);
            }
            Event meant = before(kind, k);
            if (meant == null) {
                throw new Fault(4, place);
            }
            events.add(new Event(kind, when, meant.a, meant.b));
        } else if (kind == 1) {
            events.add(new Event(1, when, several(x), x));
        } else if (kind == 2) {
            int number = one();
            if (number < 1 || number > 31) {
                throw new Fault(5, first);
            }
            events.add(new Event(2, when, x, number));
        } else {
            events.add(new Event(kind, when, kind == 3 ? number() : several(4), 0));
        }
    }

    private void repeat(int place, int x, long said, Event latest) {
        if (latest == null) {
            throw new Fault(4, place);
        }
        int first = at;
        long n = x == 0 ? number() : x;
        if (n == 0) {
            throw new Fault(5, first);
        }
        if (events.size() + n > said) {
            throw new Fault(6, place);
        }
        long difference = difference(events, events.size() - 1);
        for (long i = 1; i <= n; i++) {
            events.add(new Event(latest.kind, latest.at + i * difference, latest.a, latest.b));
        }
    }

    private Event before(int kind, long k) {
        long left = k;
        for (int j = events.size() - 1; j >= 0; j--) {
            if (events.get(j).kind == kind) {
                left--;
                if (left == 0) {
                    return events.get(j);
                }
            }
        }
        return null;
    }

    private long several(int n) {
        long v = 0;
        for (int i = 0; i < n; i++) {
            v = v << 8 | one();
        }
        return v;
    }
}
