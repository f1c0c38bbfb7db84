theorem dL_law_1868 {nm : String} : pm_dec (mL_law nm) 1868 (.aload_n 2, 1) 1869 := ⟨(by decide +kernel : decode code 1868 = .ok (.aload_n 2, 1)), rfl⟩
theorem dL_law_1869 {nm : String} : pm_dec (mL_law nm) 1869 (.aload_n 0, 1) 1870 := ⟨(by decide +kernel : decode code 1869 = .ok (.aload_n 0, 1)), rfl⟩
theorem dL_law_1870 {nm : String} : pm_dec (mL_law nm) 1870 (.iload_n 3, 1) 1871 := ⟨(by decide +kernel : decode code 1870 = .ok (.iload_n 3, 1)), rfl⟩
theorem dL_law_1871 {nm : String} : pm_dec (mL_law nm) 1871 (.iconst 1, 1) 1872 := ⟨(by decide +kernel : decode code 1871 = .ok (.iconst 1, 1)), rfl⟩
theorem dL_law_1872 {nm : String} : pm_dec (mL_law nm) 1872 (.iadd, 1) 1873 := ⟨(by decide +kernel : decode code 1872 = .ok (.iadd, 1)), rfl⟩
theorem dL_law_1873 {nm : String} : pm_dec (mL_law nm) 1873 (.iaload, 1) 1874 := ⟨(by decide +kernel : decode code 1873 = .ok (.iaload, 1)), rfl⟩
theorem dL_law_1874 {nm : String} : pm_dec (mL_law nm) 1874 (.aload_n 0, 1) 1875 := ⟨(by decide +kernel : decode code 1874 = .ok (.aload_n 0, 1)), rfl⟩
theorem dL_law_1875 {nm : String} : pm_dec (mL_law nm) 1875 (.iload_n 3, 1) 1876 := ⟨(by decide +kernel : decode code 1875 = .ok (.iload_n 3, 1)), rfl⟩
theorem dL_law_1876 {nm : String} : pm_dec (mL_law nm) 1876 (.iconst 2, 1) 1877 := ⟨(by decide +kernel : decode code 1876 = .ok (.iconst 2, 1)), rfl⟩
theorem dL_law_1877 {nm : String} : pm_dec (mL_law nm) 1877 (.iadd, 1) 1878 := ⟨(by decide +kernel : decode code 1877 = .ok (.iadd, 1)), rfl⟩
theorem dL_law_1878 {nm : String} : pm_dec (mL_law nm) 1878 (.iaload, 1) 1879 := ⟨(by decide +kernel : decode code 1878 = .ok (.iaload, 1)), rfl⟩
theorem dL_law_1879 {nm : String} : pm_dec (mL_law nm) 1879 (.aload_n 0, 1) 1880 := ⟨(by decide +kernel : decode code 1879 = .ok (.aload_n 0, 1)), rfl⟩
theorem dL_law_1880 {nm : String} : pm_dec (mL_law nm) 1880 (.iload_n 3, 1) 1881 := ⟨(by decide +kernel : decode code 1880 = .ok (.iload_n 3, 1)), rfl⟩
theorem dL_law_1881 {nm : String} : pm_dec (mL_law nm) 1881 (.iconst 3, 1) 1882 := ⟨(by decide +kernel : decode code 1881 = .ok (.iconst 3, 1)), rfl⟩
theorem dL_law_1882 {nm : String} : pm_dec (mL_law nm) 1882 (.iadd, 1) 1883 := ⟨(by decide +kernel : decode code 1882 = .ok (.iadd, 1)), rfl⟩
theorem dL_law_1883 {nm : String} : pm_dec (mL_law nm) 1883 (.iaload, 1) 1884 := ⟨(by decide +kernel : decode code 1883 = .ok (.iaload, 1)), rfl⟩
theorem dL_law_1884 {nm : String} : pm_dec (mL_law nm) 1884 (.invokevirtual 210, 3) 1887 := ⟨(by decide +kernel : decode code 1884 = .ok (.invokevirtual 210, 3)), rfl⟩
theorem dL_law_1887 {nm : String} : pm_dec (mL_law nm) 1887 (.pop, 1) 1888 := ⟨(by decide +kernel : decode code 1887 = .ok (.pop, 1)), rfl⟩
theorem dL_law_1888 {nm : String} : pm_dec (mL_law nm) 1888 (.goto 217, 3) 1891 := ⟨(by decide +kernel : decode code 1888 = .ok (.goto 217, 3)), rfl⟩
theorem dL_law_1891 {nm : String} : pm_dec (mL_law nm) 1891 (.aload_n 1, 1) 1892 := ⟨(by decide +kernel : decode code 1891 = .ok (.aload_n 1, 1)), rfl⟩
theorem dL_law_1892 {nm : String} : pm_dec (mL_law nm) 1892 (.aload_n 0, 1) 1893 := ⟨(by decide +kernel : decode code 1892 = .ok (.aload_n 0, 1)), rfl⟩
theorem dL_law_1893 {nm : String} : pm_dec (mL_law nm) 1893 (.iload_n 3, 1) 1894 := ⟨(by decide +kernel : decode code 1893 = .ok (.iload_n 3, 1)), rfl⟩
theorem dL_law_1894 {nm : String} : pm_dec (mL_law nm) 1894 (.iconst 1, 1) 1895 := ⟨(by decide +kernel : decode code 1894 = .ok (.iconst 1, 1)), rfl⟩
theorem dL_law_1895 {nm : String} : pm_dec (mL_law nm) 1895 (.iadd, 1) 1896 := ⟨(by decide +kernel : decode code 1895 = .ok (.iadd, 1)), rfl⟩
theorem dL_law_1896 {nm : String} : pm_dec (mL_law nm) 1896 (.iaload, 1) 1897 := ⟨(by decide +kernel : decode code 1896 = .ok (.iaload, 1)), rfl⟩
theorem dL_law_1897 {nm : String} : pm_dec (mL_law nm) 1897 (.aload_n 0, 1) 1898 := ⟨(by decide +kernel : decode code 1897 = .ok (.aload_n 0, 1)), rfl⟩
theorem dL_law_1898 {nm : String} : pm_dec (mL_law nm) 1898 (.iload_n 3, 1) 1899 := ⟨(by decide +kernel : decode code 1898 = .ok (.iload_n 3, 1)), rfl⟩
theorem dL_law_1899 {nm : String} : pm_dec (mL_law nm) 1899 (.iconst 2, 1) 1900 := ⟨(by decide +kernel : decode code 1899 = .ok (.iconst 2, 1)), rfl⟩
theorem dL_law_1900 {nm : String} : pm_dec (mL_law nm) 1900 (.iadd, 1) 1901 := ⟨(by decide +kernel : decode code 1900 = .ok (.iadd, 1)), rfl⟩
theorem dL_law_1901 {nm : String} : pm_dec (mL_law nm) 1901 (.iaload, 1) 1902 := ⟨(by decide +kernel : decode code 1901 = .ok (.iaload, 1)), rfl⟩
theorem dL_law_1902 {nm : String} : pm_dec (mL_law nm) 1902 (.aload_n 0, 1) 1903 := ⟨(by decide +kernel : decode code 1902 = .ok (.aload_n 0, 1)), rfl⟩
theorem dL_law_1903 {nm : String} : pm_dec (mL_law nm) 1903 (.iload_n 3, 1) 1904 := ⟨(by decide +kernel : decode code 1903 = .ok (.iload_n 3, 1)), rfl⟩
theorem dL_law_1904 {nm : String} : pm_dec (mL_law nm) 1904 (.iconst 3, 1) 1905 := ⟨(by decide +kernel : decode code 1904 = .ok (.iconst 3, 1)), rfl⟩
theorem dL_law_1905 {nm : String} : pm_dec (mL_law nm) 1905 (.iadd, 1) 1906 := ⟨(by decide +kernel : decode code 1905 = .ok (.iadd, 1)), rfl⟩
theorem dL_law_1906 {nm : String} : pm_dec (mL_law nm) 1906 (.iaload, 1) 1907 := ⟨(by decide +kernel : decode code 1906 = .ok (.iaload, 1)), rfl⟩
theorem dL_law_1907 {nm : String} : pm_dec (mL_law nm) 1907 (.invokevirtual 211, 3) 1910 := ⟨(by decide +kernel : decode code 1907 = .ok (.invokevirtual 211, 3)), rfl⟩
theorem dL_law_1910 {nm : String} : pm_dec (mL_law nm) 1910 (.pop, 1) 1911 := ⟨(by decide +kernel : decode code 1910 = .ok (.pop, 1)), rfl⟩
theorem dL_law_1911 {nm : String} : pm_dec (mL_law nm) 1911 (.aload_n 2, 1) 1912 := ⟨(by decide +kernel : decode code 1911 = .ok (.aload_n 2, 1)), rfl⟩
theorem dL_law_1912 {nm : String} : pm_dec (mL_law nm) 1912 (.aload_n 0, 1) 1913 := ⟨(by decide +kernel : decode code 1912 = .ok (.aload_n 0, 1)), rfl⟩
theorem dL_law_1913 {nm : String} : pm_dec (mL_law nm) 1913 (.iload_n 3, 1) 1914 := ⟨(by decide +kernel : decode code 1913 = .ok (.iload_n 3, 1)), rfl⟩
theorem dL_law_1914 {nm : String} : pm_dec (mL_law nm) 1914 (.iconst 1, 1) 1915 := ⟨(by decide +kernel : decode code 1914 = .ok (.iconst 1, 1)), rfl⟩
theorem dL_law_1915 {nm : String} : pm_dec (mL_law nm) 1915 (.iadd, 1) 1916 := ⟨(by decide +kernel : decode code 1915 = .ok (.iadd, 1)), rfl⟩
theorem dL_law_1916 {nm : String} : pm_dec (mL_law nm) 1916 (.iaload, 1) 1917 := ⟨(by decide +kernel : decode code 1916 = .ok (.iaload, 1)), rfl⟩
theorem dL_law_1917 {nm : String} : pm_dec (mL_law nm) 1917 (.aload_n 0, 1) 1918 := ⟨(by decide +kernel : decode code 1917 = .ok (.aload_n 0, 1)), rfl⟩
theorem dL_law_1918 {nm : String} : pm_dec (mL_law nm) 1918 (.iload_n 3, 1) 1919 := ⟨(by decide +kernel : decode code 1918 = .ok (.iload_n 3, 1)), rfl⟩
theorem dL_law_1919 {nm : String} : pm_dec (mL_law nm) 1919 (.iconst 2, 1) 1920 := ⟨(by decide +kernel : decode code 1919 = .ok (.iconst 2, 1)), rfl⟩
theorem dL_law_1920 {nm : String} : pm_dec (mL_law nm) 1920 (.iadd, 1) 1921 := ⟨(by decide +kernel : decode code 1920 = .ok (.iadd, 1)), rfl⟩
theorem dL_law_1921 {nm : String} : pm_dec (mL_law nm) 1921 (.iaload, 1) 1922 := ⟨(by decide +kernel : decode code 1921 = .ok (.iaload, 1)), rfl⟩
theorem dL_law_1922 {nm : String} : pm_dec (mL_law nm) 1922 (.aload_n 0, 1) 1923 := ⟨(by decide +kernel : decode code 1922 = .ok (.aload_n 0, 1)), rfl⟩
theorem dL_law_1923 {nm : String} : pm_dec (mL_law nm) 1923 (.iload_n 3, 1) 1924 := ⟨(by decide +kernel : decode code 1923 = .ok (.iload_n 3, 1)), rfl⟩
theorem dL_law_1924 {nm : String} : pm_dec (mL_law nm) 1924 (.iconst 3, 1) 1925 := ⟨(by decide +kernel : decode code 1924 = .ok (.iconst 3, 1)), rfl⟩
theorem dL_law_1925 {nm : String} : pm_dec (mL_law nm) 1925 (.iadd, 1) 1926 := ⟨(by decide +kernel : decode code 1925 = .ok (.iadd, 1)), rfl⟩
theorem dL_law_1926 {nm : String} : pm_dec (mL_law nm) 1926 (.iaload, 1) 1927 := ⟨(by decide +kernel : decode code 1926 = .ok (.iaload, 1)), rfl⟩
theorem dL_law_1927 {nm : String} : pm_dec (mL_law nm) 1927 (.invokevirtual 214, 3) 1930 := ⟨(by decide +kernel : decode code 1927 = .ok (.invokevirtual 214, 3)), rfl⟩
theorem dL_law_1930 {nm : String} : pm_dec (mL_law nm) 1930 (.pop, 1) 1931 := ⟨(by decide +kernel : decode code 1930 = .ok (.pop, 1)), rfl⟩
theorem dL_law_1931 {nm : String} : pm_dec (mL_law nm) 1931 (.goto 174, 3) 1934 := ⟨(by decide +kernel : decode code 1931 = .ok (.goto 174, 3)), rfl⟩
theorem dL_law_1934 {nm : String} : pm_dec (mL_law nm) 1934 (.aload_n 1, 1) 1935 := ⟨(by decide +kernel : decode code 1934 = .ok (.aload_n 1, 1)), rfl⟩
theorem dL_law_1935 {nm : String} : pm_dec (mL_law nm) 1935 (.aload_n 0, 1) 1936 := ⟨(by decide +kernel : decode code 1935 = .ok (.aload_n 0, 1)), rfl⟩
theorem dL_law_1936 {nm : String} : pm_dec (mL_law nm) 1936 (.iload_n 3, 1) 1937 := ⟨(by decide +kernel : decode code 1936 = .ok (.iload_n 3, 1)), rfl⟩
theorem dL_law_1937 {nm : String} : pm_dec (mL_law nm) 1937 (.iconst 1, 1) 1938 := ⟨(by decide +kernel : decode code 1937 = .ok (.iconst 1, 1)), rfl⟩
theorem dL_law_1938 {nm : String} : pm_dec (mL_law nm) 1938 (.iadd, 1) 1939 := ⟨(by decide +kernel : decode code 1938 = .ok (.iadd, 1)), rfl⟩
theorem dL_law_1939 {nm : String} : pm_dec (mL_law nm) 1939 (.iaload, 1) 1940 := ⟨(by decide +kernel : decode code 1939 = .ok (.iaload, 1)), rfl⟩
theorem dL_law_1940 {nm : String} : pm_dec (mL_law nm) 1940 (.aload_n 0, 1) 1941 := ⟨(by decide +kernel : decode code 1940 = .ok (.aload_n 0, 1)), rfl⟩
theorem dL_law_1941 {nm : String} : pm_dec (mL_law nm) 1941 (.iload_n 3, 1) 1942 := ⟨(by decide +kernel : decode code 1941 = .ok (.iload_n 3, 1)), rfl⟩
theorem dL_law_1942 {nm : String} : pm_dec (mL_law nm) 1942 (.iconst 2, 1) 1943 := ⟨(by decide +kernel : decode code 1942 = .ok (.iconst 2, 1)), rfl⟩
theorem dL_law_1943 {nm : String} : pm_dec (mL_law nm) 1943 (.iadd, 1) 1944 := ⟨(by decide +kernel : decode code 1943 = .ok (.iadd, 1)), rfl⟩
theorem dL_law_1944 {nm : String} : pm_dec (mL_law nm) 1944 (.iaload, 1) 1945 := ⟨(by decide +kernel : decode code 1944 = .ok (.iaload, 1)), rfl⟩
theorem dL_law_1945 {nm : String} : pm_dec (mL_law nm) 1945 (.aload_n 0, 1) 1946 := ⟨(by decide +kernel : decode code 1945 = .ok (.aload_n 0, 1)), rfl⟩
theorem dL_law_1946 {nm : String} : pm_dec (mL_law nm) 1946 (.iload_n 3, 1) 1947 := ⟨(by decide +kernel : decode code 1946 = .ok (.iload_n 3, 1)), rfl⟩
theorem dL_law_1947 {nm : String} : pm_dec (mL_law nm) 1947 (.iconst 3, 1) 1948 := ⟨(by decide +kernel : decode code 1947 = .ok (.iconst 3, 1)), rfl⟩
theorem dL_law_1948 {nm : String} : pm_dec (mL_law nm) 1948 (.iadd, 1) 1949 := ⟨(by decide +kernel : decode code 1948 = .ok (.iadd, 1)), rfl⟩
theorem dL_law_1949 {nm : String} : pm_dec (mL_law nm) 1949 (.iaload, 1) 1950 := ⟨(by decide +kernel : decode code 1949 = .ok (.iaload, 1)), rfl⟩
theorem dL_law_1950 {nm : String} : pm_dec (mL_law nm) 1950 (.aload_n 0, 1) 1951 := ⟨(by decide +kernel : decode code 1950 = .ok (.aload_n 0, 1)), rfl⟩
theorem dL_law_1951 {nm : String} : pm_dec (mL_law nm) 1951 (.iload_n 3, 1) 1952 := ⟨(by decide +kernel : decode code 1951 = .ok (.iload_n 3, 1)), rfl⟩
theorem dL_law_1952 {nm : String} : pm_dec (mL_law nm) 1952 (.iconst 4, 1) 1953 := ⟨(by decide +kernel : decode code 1952 = .ok (.iconst 4, 1)), rfl⟩
theorem dL_law_1953 {nm : String} : pm_dec (mL_law nm) 1953 (.iadd, 1) 1954 := ⟨(by decide +kernel : decode code 1953 = .ok (.iadd, 1)), rfl⟩
theorem dL_law_1954 {nm : String} : pm_dec (mL_law nm) 1954 (.iaload, 1) 1955 := ⟨(by decide +kernel : decode code 1954 = .ok (.iaload, 1)), rfl⟩
theorem dL_law_1955 {nm : String} : pm_dec (mL_law nm) 1955 (.aload_n 0, 1) 1956 := ⟨(by decide +kernel : decode code 1955 = .ok (.aload_n 0, 1)), rfl⟩
theorem dL_law_1956 {nm : String} : pm_dec (mL_law nm) 1956 (.iload_n 3, 1) 1957 := ⟨(by decide +kernel : decode code 1956 = .ok (.iload_n 3, 1)), rfl⟩
theorem dL_law_1957 {nm : String} : pm_dec (mL_law nm) 1957 (.iconst 5, 1) 1958 := ⟨(by decide +kernel : decode code 1957 = .ok (.iconst 5, 1)), rfl⟩
theorem dL_law_1958 {nm : String} : pm_dec (mL_law nm) 1958 (.iadd, 1) 1959 := ⟨(by decide +kernel : decode code 1958 = .ok (.iadd, 1)), rfl⟩
theorem dL_law_1959 {nm : String} : pm_dec (mL_law nm) 1959 (.iaload, 1) 1960 := ⟨(by decide +kernel : decode code 1959 = .ok (.iaload, 1)), rfl⟩
theorem dL_law_1960 {nm : String} : pm_dec (mL_law nm) 1960 (.invokevirtual 215, 3) 1963 := ⟨(by decide +kernel : decode code 1960 = .ok (.invokevirtual 215, 3)), rfl⟩
theorem dL_law_1963 {nm : String} : pm_dec (mL_law nm) 1963 (.pop, 1) 1964 := ⟨(by decide +kernel : decode code 1963 = .ok (.pop, 1)), rfl⟩
theorem dL_law_1964 {nm : String} : pm_dec (mL_law nm) 1964 (.aload_n 2, 1) 1965 := ⟨(by decide +kernel : decode code 1964 = .ok (.aload_n 2, 1)), rfl⟩
theorem dL_law_1965 {nm : String} : pm_dec (mL_law nm) 1965 (.aload_n 0, 1) 1966 := ⟨(by decide +kernel : decode code 1965 = .ok (.aload_n 0, 1)), rfl⟩
theorem dL_law_1966 {nm : String} : pm_dec (mL_law nm) 1966 (.iload_n 3, 1) 1967 := ⟨(by decide +kernel : decode code 1966 = .ok (.iload_n 3, 1)), rfl⟩
theorem dL_law_1967 {nm : String} : pm_dec (mL_law nm) 1967 (.iconst 1, 1) 1968 := ⟨(by decide +kernel : decode code 1967 = .ok (.iconst 1, 1)), rfl⟩
theorem dL_law_1968 {nm : String} : pm_dec (mL_law nm) 1968 (.iadd, 1) 1969 := ⟨(by decide +kernel : decode code 1968 = .ok (.iadd, 1)), rfl⟩
theorem dL_law_1969 {nm : String} : pm_dec (mL_law nm) 1969 (.iaload, 1) 1970 := ⟨(by decide +kernel : decode code 1969 = .ok (.iaload, 1)), rfl⟩
theorem dL_law_1970 {nm : String} : pm_dec (mL_law nm) 1970 (.aload_n 0, 1) 1971 := ⟨(by decide +kernel : decode code 1970 = .ok (.aload_n 0, 1)), rfl⟩
theorem dL_law_1971 {nm : String} : pm_dec (mL_law nm) 1971 (.iload_n 3, 1) 1972 := ⟨(by decide +kernel : decode code 1971 = .ok (.iload_n 3, 1)), rfl⟩
theorem dL_law_1972 {nm : String} : pm_dec (mL_law nm) 1972 (.iconst 2, 1) 1973 := ⟨(by decide +kernel : decode code 1972 = .ok (.iconst 2, 1)), rfl⟩
theorem dL_law_1973 {nm : String} : pm_dec (mL_law nm) 1973 (.iadd, 1) 1974 := ⟨(by decide +kernel : decode code 1973 = .ok (.iadd, 1)), rfl⟩
theorem dL_law_1974 {nm : String} : pm_dec (mL_law nm) 1974 (.iaload, 1) 1975 := ⟨(by decide +kernel : decode code 1974 = .ok (.iaload, 1)), rfl⟩
theorem dL_law_1975 {nm : String} : pm_dec (mL_law nm) 1975 (.aload_n 0, 1) 1976 := ⟨(by decide +kernel : decode code 1975 = .ok (.aload_n 0, 1)), rfl⟩
theorem dL_law_1976 {nm : String} : pm_dec (mL_law nm) 1976 (.iload_n 3, 1) 1977 := ⟨(by decide +kernel : decode code 1976 = .ok (.iload_n 3, 1)), rfl⟩
theorem dL_law_1977 {nm : String} : pm_dec (mL_law nm) 1977 (.iconst 3, 1) 1978 := ⟨(by decide +kernel : decode code 1977 = .ok (.iconst 3, 1)), rfl⟩
theorem dL_law_1978 {nm : String} : pm_dec (mL_law nm) 1978 (.iadd, 1) 1979 := ⟨(by decide +kernel : decode code 1978 = .ok (.iadd, 1)), rfl⟩
theorem dL_law_1979 {nm : String} : pm_dec (mL_law nm) 1979 (.iaload, 1) 1980 := ⟨(by decide +kernel : decode code 1979 = .ok (.iaload, 1)), rfl⟩
theorem dL_law_1980 {nm : String} : pm_dec (mL_law nm) 1980 (.aload_n 0, 1) 1981 := ⟨(by decide +kernel : decode code 1980 = .ok (.aload_n 0, 1)), rfl⟩
theorem dL_law_1981 {nm : String} : pm_dec (mL_law nm) 1981 (.iload_n 3, 1) 1982 := ⟨(by decide +kernel : decode code 1981 = .ok (.iload_n 3, 1)), rfl⟩
theorem dL_law_1982 {nm : String} : pm_dec (mL_law nm) 1982 (.iconst 4, 1) 1983 := ⟨(by decide +kernel : decode code 1982 = .ok (.iconst 4, 1)), rfl⟩
theorem dL_law_1983 {nm : String} : pm_dec (mL_law nm) 1983 (.iadd, 1) 1984 := ⟨(by decide +kernel : decode code 1983 = .ok (.iadd, 1)), rfl⟩
theorem dL_law_1984 {nm : String} : pm_dec (mL_law nm) 1984 (.iaload, 1) 1985 := ⟨(by decide +kernel : decode code 1984 = .ok (.iaload, 1)), rfl⟩
theorem dL_law_1985 {nm : String} : pm_dec (mL_law nm) 1985 (.aload_n 0, 1) 1986 := ⟨(by decide +kernel : decode code 1985 = .ok (.aload_n 0, 1)), rfl⟩
theorem dL_law_1986 {nm : String} : pm_dec (mL_law nm) 1986 (.iload_n 3, 1) 1987 := ⟨(by decide +kernel : decode code 1986 = .ok (.iload_n 3, 1)), rfl⟩
theorem dL_law_1987 {nm : String} : pm_dec (mL_law nm) 1987 (.iconst 5, 1) 1988 := ⟨(by decide +kernel : decode code 1987 = .ok (.iconst 5, 1)), rfl⟩
theorem dL_law_1988 {nm : String} : pm_dec (mL_law nm) 1988 (.iadd, 1) 1989 := ⟨(by decide +kernel : decode code 1988 = .ok (.iadd, 1)), rfl⟩
theorem dL_law_1989 {nm : String} : pm_dec (mL_law nm) 1989 (.iaload, 1) 1990 := ⟨(by decide +kernel : decode code 1989 = .ok (.iaload, 1)), rfl⟩
theorem dL_law_1990 {nm : String} : pm_dec (mL_law nm) 1990 (.invokevirtual 219, 3) 1993 := ⟨(by decide +kernel : decode code 1990 = .ok (.invokevirtual 219, 3)), rfl⟩
theorem dL_law_1993 {nm : String} : pm_dec (mL_law nm) 1993 (.pop, 1) 1994 := ⟨(by decide +kernel : decode code 1993 = .ok (.pop, 1)), rfl⟩
theorem dL_law_1994 {nm : String} : pm_dec (mL_law nm) 1994 (.goto 111, 3) 1997 := ⟨(by decide +kernel : decode code 1994 = .ok (.goto 111, 3)), rfl⟩
theorem dL_law_1997 {nm : String} : pm_dec (mL_law nm) 1997 (.aload_n 1, 1) 1998 := ⟨(by decide +kernel : decode code 1997 = .ok (.aload_n 1, 1)), rfl⟩
theorem dL_law_1998 {nm : String} : pm_dec (mL_law nm) 1998 (.invokevirtual 220, 3) 2001 := ⟨(by decide +kernel : decode code 1998 = .ok (.invokevirtual 220, 3)), rfl⟩
theorem dL_law_2001 {nm : String} : pm_dec (mL_law nm) 2001 (.aload_n 2, 1) 2002 := ⟨(by decide +kernel : decode code 2001 = .ok (.aload_n 2, 1)), rfl⟩
theorem dL_law_2002 {nm : String} : pm_dec (mL_law nm) 2002 (.invokevirtual 223, 3) 2005 := ⟨(by decide +kernel : decode code 2002 = .ok (.invokevirtual 223, 3)), rfl⟩
theorem dL_law_2005 {nm : String} : pm_dec (mL_law nm) 2005 (.if_icmp .eq 100, 3) 2008 := ⟨(by decide +kernel : decode code 2005 = .ok (.if_icmp .eq 100, 3)), rfl⟩
theorem dL_law_2010 {nm : String} : pm_dec (mL_law nm) 2010 (.aload_n 1, 1) 2011 := ⟨(by decide +kernel : decode code 2010 = .ok (.aload_n 1, 1)), rfl⟩
theorem dL_law_2011 {nm : String} : pm_dec (mL_law nm) 2011 (.invokevirtual 224, 3) 2014 := ⟨(by decide +kernel : decode code 2011 = .ok (.invokevirtual 224, 3)), rfl⟩
theorem dL_law_2014 {nm : String} : pm_dec (mL_law nm) 2014 (.pop, 1) 2015 := ⟨(by decide +kernel : decode code 2014 = .ok (.pop, 1)), rfl⟩
theorem dL_law_2015 {nm : String} : pm_dec (mL_law nm) 2015 (.aload_n 2, 1) 2016 := ⟨(by decide +kernel : decode code 2015 = .ok (.aload_n 2, 1)), rfl⟩
theorem dL_law_2016 {nm : String} : pm_dec (mL_law nm) 2016 (.invokevirtual 227, 3) 2019 := ⟨(by decide +kernel : decode code 2016 = .ok (.invokevirtual 227, 3)), rfl⟩
theorem dL_law_2019 {nm : String} : pm_dec (mL_law nm) 2019 (.pop, 1) 2020 := ⟨(by decide +kernel : decode code 2019 = .ok (.pop, 1)), rfl⟩
theorem dL_law_2020 {nm : String} : pm_dec (mL_law nm) 2020 (.goto 85, 3) 2023 := ⟨(by decide +kernel : decode code 2020 = .ok (.goto 85, 3)), rfl⟩
theorem dL_law_2023 {nm : String} : pm_dec (mL_law nm) 2023 (.aload_n 1, 1) 2024 := ⟨(by decide +kernel : decode code 2023 = .ok (.aload_n 1, 1)), rfl⟩
theorem dL_law_2024 {nm : String} : pm_dec (mL_law nm) 2024 (.aload_n 0, 1) 2025 := ⟨(by decide +kernel : decode code 2024 = .ok (.aload_n 0, 1)), rfl⟩
theorem dL_law_2025 {nm : String} : pm_dec (mL_law nm) 2025 (.iload_n 3, 1) 2026 := ⟨(by decide +kernel : decode code 2025 = .ok (.iload_n 3, 1)), rfl⟩
theorem dL_law_2026 {nm : String} : pm_dec (mL_law nm) 2026 (.iconst 1, 1) 2027 := ⟨(by decide +kernel : decode code 2026 = .ok (.iconst 1, 1)), rfl⟩
theorem dL_law_2027 {nm : String} : pm_dec (mL_law nm) 2027 (.iadd, 1) 2028 := ⟨(by decide +kernel : decode code 2027 = .ok (.iadd, 1)), rfl⟩
