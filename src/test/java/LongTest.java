import java.util.Map;
import java.util.Random;
import java.util.Set;

/**
 * Far beyond 512 calls answers are free, but by LANGUAGE.md's rules 7 and 12 no call throws by itself then either,
 * and no more is kept than the document's limits allow.
 */
public final class LongTest {
    private static final int[] ODD = {-1, 0, 1, 2, 3, 7, 8, 31, 32, 79, 80, 200, 300, 2000, 1 << 30, Integer.MAX_VALUE,
        Integer.MAX_VALUE - 1, Integer.MIN_VALUE, Integer.MIN_VALUE + 1};
    private static final int[] LIMITS = {8, 8, 60, 200, 200, 200, 200, 300, 300, 200, Integer.MAX_VALUE, 2000};
    private static final Map<Integer, Set<String>> MAY_THROW = Map.of(
        3, Set.of(Kit.ILLEGAL, Kit.UNSUPPORTED), 4, Set.of(Kit.ILLEGAL, Kit.UNSUPPORTED),
        5, Set.of(Kit.INDEX, Kit.ILLEGAL, Kit.UNSUPPORTED), 6, Set.of(Kit.ILLEGAL), 8, Set.of(Kit.ILLEGAL),
        10, Set.of(Kit.NO_SUCH, Kit.ILLEGAL, Kit.STATE), 13, Set.of(Kit.INDEX),
        18, Set.of(Kit.NO_SUCH), 19, Set.of(Kit.NO_SUCH));

    private final Random random;
    private final GrantServer x = new GrantServer();

    private LongTest(int seed) {
        random = new Random(seed);
    }

    public static void main(String[] args) {
        for (int seed = 0; seed < 20; seed++) {
            new LongTest(seed).anyCalls();
        }
        new LongTest(20).toTheLimits();
        Kit.close();
    }

    private int odd() {
        return random.nextInt(3) == 0 ? random.nextInt() : ODD[random.nextInt(ODD.length)];
    }

    private void anyCalls() {
        for (int i = 0; i < 5000; i++) {
            int kind = random.nextInt(21);
            String thrown = Kit.thrown(() -> call(kind));
            boolean may = thrown.equals(Kit.NO) || MAY_THROW.getOrDefault(kind, Set.of()).contains(thrown);
            Kit.due("call of kind " + kind + " throwing " + thrown + " is told", 1, may ? 1 : 0);
        }
        limits();
    }

    private void call(int kind) {
        boolean flag = random.nextBoolean();
        switch (kind) {
            case 0: x.feed(random.nextInt(), 0x61613d25, odd(), 0x26612661, random.nextInt()); break;
            case 1: x.end(flag ? odd() : random.nextInt(30)); break;
            case 2: x.again(odd(), odd()); break;
            case 3: x.end(random.nextInt(3)); x.scope(); break;
            case 4: x.end(random.nextInt(5)); x.client(flag, flag ? 0 : odd(), flag); break;
            case 5: x.end(random.nextInt(9)); x.redirect(odd()); break;
            case 6: x.lives(odd(), odd(), odd()); break;
            case 7: x.dice(odd(), odd(), odd(), odd()); break;
            case 8: x.tick(odd()); break;
            case 9: x.authorize(); break;
            case 10: x.consent(odd(), odd(), odd(), flag); break;
            case 11: x.token(); break;
            case 12: x.revoke(); break;
            case 13: x.check(odd()); break;
            case 14: x.status(); break;
            case 15: x.error(); break;
            case 16: x.out(odd()); break;
            case 17: x.outs(); break;
            case 18: x.code(odd(), odd()); break;
            case 19: x.family(odd(), odd()); break;
            default: x.count(odd());
        }
    }

    private void limits() {
        for (int what = 0; what < 12; what++) {
            int count = x.count(what);
            Kit.due("count(" + what + ") is within " + LIMITS[what], 1, count <= LIMITS[what] ? 1 : 0);
        }
    }

    private void put(String text) {
        for (int i = 0; i < text.length(); i += 20) {
            x.feed(Kit.four(text, i), Kit.four(text, i + 4), Kit.four(text, i + 8), Kit.four(text, i + 12),
                Kit.four(text, i + 16));
        }
        x.end(text.length());
    }

    /** More REQUESTS, CODES, ACCESS and REFRESH tokens are asked for than there may be. */
    private void toTheLimits() {
        put("r");
        x.scope();
        put("x");
        x.client(false, 1, true);
        put("u");
        x.redirect(0);
        for (int k = 0; k < 210; k++) {
            put("client_id=x&response_type=code" + Kit.S256);
            x.authorize();
            x.dice(k, 1, 0, 0);
            int request = k;
            Kit.thrown(() -> x.consent(request, request - 100, 1, true));
            x.dice(k, 2, 0, 0);
            x.dice(k, 3, 0, 0);
            put("grant_type=authorization_code&client_id=x&redirect_uri=u&code_verifier=" + Kit.VERIFIER
                + "&code=" + Kit.handle(k, 1, 0, 0));
            x.token();
            limits();
        }
        for (int k = 0; k < 200; k++) {
            x.dice(k, 4, 0, 0);
            x.dice(k, 5, 0, 0);
            put("grant_type=refresh_token&client_id=x&refresh_token=" + Kit.handle(k, 3, 0, 0));
            x.token();
            limits();
        }
        x.family(0, 4);
    }
}
