import java.lang.reflect.InvocationHandler;
import java.lang.reflect.InvocationTargetException;
import java.lang.reflect.Method;
import java.lang.reflect.Proxy;
import java.util.ArrayList;
import java.util.List;

/** A hall that keeps the calls made on it, so that another one can be brought to the same state. */
final class Recorder implements InvocationHandler {
    private static final int MOST_CALLS = 512;

    private record Made(Method method, Object[] arguments) {
    }

    private final int discipline;
    private final Hall real;
    private final List<Made> calls = new ArrayList<>();

    private Recorder(int discipline) {
        this.discipline = discipline;
        real = new RealHall(new PisteLine(discipline));
    }

    static Hall hall(int discipline) {
        ClassLoader loader = Recorder.class.getClassLoader();
        return (Hall) Proxy.newProxyInstance(loader, new Class<?>[] {Hall.class}, new Recorder(discipline));
    }

    static Recorder of(Hall recorded) {
        return (Recorder) Proxy.getInvocationHandler(recorded);
    }

    /** The hall itself, for what is asked beside the run and is not to be made again. */
    Hall real() {
        return real;
    }

    /** A new hall of the class, with which the same calls have been made. */
    Hall again() {
        return madeOn(new RealHall(new PisteLine(discipline)));
    }

    /** A new model of the hall, with which the same calls have been made. */
    Hall model() {
        return madeOn(new ModelHall(discipline));
    }

    int calls() {
        return calls.size();
    }

    private Hall madeOn(Hall hall) {
        for (Made call : calls) {
            try {
                make(hall, call.method, call.arguments);
            } catch (RuntimeException e) {
                // It was refused when it was recorded, too.
                continue;
            }
        }
        return hall;
    }

    @Override
    public Object invoke(Object proxy, Method method, Object[] arguments) {
        if (calls.size() >= MOST_CALLS) {
            throw new AssertionError("the document leaves free what an object answers behind 512 calls");
        }
        calls.add(new Made(method, arguments));
        return make(real, method, arguments);
    }

    private static Object make(Hall hall, Method method, Object[] arguments) {
        try {
            return method.invoke(hall, arguments);
        } catch (InvocationTargetException e) {
            if (e.getCause() instanceof RuntimeException thrown) {
                throw thrown;
            }
            throw new IllegalStateException(e);
        } catch (IllegalAccessException e) {
            throw new IllegalStateException(e);
        }
    }
}
