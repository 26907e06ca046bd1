package real;

import java.io.IOException;
import java.io.InputStream;

/** A class loader that defines the classes of Suite.java anew. */
public final class WorldOfClasses extends ClassLoader {
    private static final String[] NAMES = {
        "Base", "Middle", "Leaf", "Plain", "Extended", "Defaulted", "Quiet", "Loud", "Bad", "Worse",
        "First", "Second", "Holder", "Lazy", "Grade", "Checked", "Slow"};

    public final Stage stage;

    public WorldOfClasses(boolean asserting) throws ReflectiveOperationException {
        super(WorldOfClasses.class.getClassLoader());
        setDefaultAssertionStatus(asserting);
        stage = (Stage) loadClass("real.Suite").getDeclaredConstructor().newInstance();
    }

    public void switchAssertions(boolean on) {
        setClassAssertionStatus("real.Checked", on);
    }

    public Class<?> lookUp(int k, boolean initialise) throws ClassNotFoundException {
        return Class.forName("real." + NAMES[k], initialise, this);
    }

    @Override
    protected Class<?> loadClass(String name, boolean resolve) throws ClassNotFoundException {
        synchronized (getClassLoadingLock(name)) {
            Class<?> known = findLoadedClass(name);
            if (known != null) {
                return known;
            }
            return isOfTheWorld(name) ? define(name) : super.loadClass(name, resolve);
        }
    }

    private static boolean isOfTheWorld(String name) {
        return name.startsWith("real.") && !name.equals(Stage.class.getName());
    }

    private Class<?> define(String name) throws ClassNotFoundException {
        try (InputStream in = getParent().getResourceAsStream(name.replace('.', '/') + ".class")) {
            if (in == null) {
                throw new ClassNotFoundException(name);
            }
            byte[] bytes = in.readAllBytes();
            return defineClass(name, bytes, 0, bytes.length);
        } catch (IOException e) {
            throw new ClassNotFoundException(name, e);
        }
    }
}
