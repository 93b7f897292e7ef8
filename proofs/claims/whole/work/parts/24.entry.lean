/-! the entry of each method (printed by wip/whole/gen7.py) -/
theorem e1 {X : SX} {σ : SH} {b : Nat} {w0 : Nat} : caD X 1 [.ref b, .ref w0] σ = exD X 1 0 [some (.ref b), some (.ref w0)] [] σ := rfl
theorem e2 {X : SX} {σ : SH} {b : Nat} {w0 : Nat} {w1 : Int32} : caD X 2 [.ref b, .ref w0, .int w1] σ = exD X 2 0 [some (.ref b), some (.ref w0), some (.int w1)] [] σ := rfl
theorem e3 {X : SX} {σ : SH} {b : Nat} {w0 : Int32} : caD X 3 [.ref b, .int w0] σ = exD X 3 0 [some (.ref b), some (.int w0)] [] σ := rfl
theorem e4 {X : SX} {σ : SH} {b : Nat} : caD X 4 [.ref b] σ = exD X 4 0 [some (.ref b)] [] σ := rfl
theorem e5 {X : SX} {σ : SH} {b : Nat} : caD X 5 [.ref b] σ = exD X 5 0 [some (.ref b), none] [] σ := rfl
theorem e6 {X : SX} {σ : SH} {b : Nat} {w0 : Nat} {w1 : Int32} : caD X 6 [.ref b, .ref w0, .int w1] σ = exD X 6 0 [some (.ref b), some (.ref w0), some (.int w1), none] [] σ := rfl
theorem e7 {X : SX} {σ : SH} {b : Nat} {w0 : Nat} : caD X 7 [.ref b, .ref w0] σ = exD X 7 0 [some (.ref b), some (.ref w0), none] [] σ := rfl
theorem e8 {X : SX} {σ : SH} {b : Nat} {w0 : Nat} : caD X 8 [.ref b, .ref w0] σ = exD X 8 0 [some (.ref b), some (.ref w0), none, none, none] [] σ := rfl
theorem e9 {X : SX} {σ : SH} {b : Nat} {w0 : Nat} {w1 : Int32} : caD X 9 [.ref b, .ref w0, .int w1] σ = exD X 9 0 [some (.ref b), some (.ref w0), some (.int w1), none, none, none, none, none] [] σ := rfl
theorem e10 {X : SX} {σ : SH} {b : Nat} {w0 : Nat} : caD X 10 [.ref b, .ref w0] σ = exD X 10 0 [some (.ref b), some (.ref w0), none, none] [] σ := rfl
theorem e11 {X : SX} {σ : SH} {b : Nat} {w0 : Nat} : caD X 11 [.ref b, .ref w0] σ = exD X 11 0 [some (.ref b), some (.ref w0), none, none, none] [] σ := rfl
theorem e12 {X : SX} {σ : SH} {w0 : Nat} {w1 : Int32} : caD X 12 [.ref w0, .int w1] σ = exD X 12 0 [some (.ref w0), some (.int w1), none] [] σ := rfl
theorem e13 {X : SX} {σ : SH} {b : Nat} {w0 : Nat} {w1 : Int32} {w2 : Int32} {w3 : Int32} : caD X 13 [.ref b, .ref w0, .int w1, .int w2, .int w3] σ = exD X 13 0 [some (.ref b), some (.ref w0), some (.int w1), some (.int w2), some (.int w3)] [] σ := rfl
theorem e14 {X : SX} {σ : SH} {b : Nat} {w0 : Nat} {w1 : Int32} {w2 : Int32} {w3 : Int32} {w4 : Int32} : caD X 14 [.ref b, .ref w0, .int w1, .int w2, .int w3, .int w4] σ = exD X 14 0 [some (.ref b), some (.ref w0), some (.int w1), some (.int w2), some (.int w3), some (.int w4)] [] σ := rfl
theorem e16 {X : SX} {σ : SH} {b : Nat} {w0 : Nat} {w1 : Nat} {w2 : Int32} {w3 : Int32} : caD X 16 [.ref b, .ref w0, .ref w1, .int w2, .int w3] σ = exD X 16 0 [some (.ref b), some (.ref w0), some (.ref w1), some (.int w2), some (.int w3), none, none, none] [] σ := rfl
theorem e17 {X : SX} {σ : SH} {b : Nat} {w0 : Int32} {w1 : Int32} {w2 : Int32} : caD X 17 [.ref b, .int w0, .int w1, .int w2] σ = exD X 17 0 [some (.ref b), some (.int w0), some (.int w1), some (.int w2), none] [] σ := rfl
theorem e19 {X : SX} {σ : SH} {b : Nat} {w0 : Int32} : caD X 19 [.ref b, .int w0] σ = exD X 19 0 [some (.ref b), some (.int w0)] [] σ := rfl
theorem e20 {X : SX} {σ : SH} {b : Nat} {w0 : Int32} {w1 : Int32} : caD X 20 [.ref b, .int w0, .int w1] σ = exD X 20 0 [some (.ref b), some (.int w0), some (.int w1)] [] σ := rfl
theorem e21 {X : SX} {σ : SH} {b : Nat} {w0 : Nat} : caD X 21 [.ref b, .ref w0] σ = exD X 21 0 [some (.ref b), some (.ref w0)] [] σ := rfl
theorem e22 {X : SX} {σ : SH} {b : Nat} {w0 : Int32} : caD X 22 [.ref b, .int w0] σ = exD X 22 0 [some (.ref b), some (.int w0)] [] σ := rfl
theorem e23 {X : SX} {σ : SH} {b : Nat} {w0 : Int32} {w1 : Int32} {w2 : Int32} : caD X 23 [.ref b, .int w0, .int w1, .int w2] σ = exD X 23 0 [some (.ref b), some (.int w0), some (.int w1), some (.int w2)] [] σ := rfl
theorem e24 {X : SX} {σ : SH} {b : Nat} {w0 : Int32} {w1 : Int32} : caD X 24 [.ref b, .int w0, .int w1] σ = exD X 24 0 [some (.ref b), some (.int w0), some (.int w1)] [] σ := rfl
theorem e25 {X : SX} {σ : SH} {b : Nat} {w0 : Int32} {w1 : Int32} {w2 : Int32} {w3 : Int32} : caD X 25 [.ref b, .int w0, .int w1, .int w2, .int w3] σ = exD X 25 0 [some (.ref b), some (.int w0), some (.int w1), some (.int w2), some (.int w3)] [] σ := rfl
theorem e26 {X : SX} {σ : SH} {b : Nat} {w0 : Int32} {w1 : Int32} {w2 : Int32} : caD X 26 [.ref b, .int w0, .int w1, .int w2] σ = exD X 26 0 [some (.ref b), some (.int w0), some (.int w1), some (.int w2)] [] σ := rfl
theorem e27 {X : SX} {σ : SH} {b : Nat} {w0 : Int32} {w1 : Int32} : caD X 27 [.ref b, .int w0, .int w1] σ = exD X 27 0 [some (.ref b), some (.int w0), some (.int w1), none] [] σ := rfl
theorem e29 {X : SX} {σ : SH} {b : Nat} {w0 : Int32} : caD X 29 [.ref b, .int w0] σ = exD X 29 0 [some (.ref b), some (.int w0)] [] σ := rfl
theorem e30 {X : SX} {σ : SH} {b : Nat} {w0 : Int32} : caD X 30 [.ref b, .int w0] σ = exD X 30 0 [some (.ref b), some (.int w0)] [] σ := rfl
theorem e31 {X : SX} {σ : SH} {b : Nat} {w0 : Int32} : caD X 31 [.ref b, .int w0] σ = exD X 31 0 [some (.ref b), some (.int w0)] [] σ := rfl
theorem e32 {X : SX} {σ : SH} {b : Nat} {w0 : Int32} : caD X 32 [.ref b, .int w0] σ = exD X 32 0 [some (.ref b), some (.int w0)] [] σ := rfl
theorem e33 {X : SX} {σ : SH} {b : Nat} {w0 : Int32} {w1 : Int32} : caD X 33 [.ref b, .int w0, .int w1] σ = exD X 33 0 [some (.ref b), some (.int w0), some (.int w1)] [] σ := rfl
theorem e34 {X : SX} {σ : SH} {b : Nat} : caD X 34 [.ref b] σ = exD X 34 0 [some (.ref b), none, none, none] [] σ := rfl
theorem e35 {X : SX} {σ : SH} {b : Nat} {w0 : Int32} : caD X 35 [.ref b, .int w0] σ = exD X 35 0 [some (.ref b), some (.int w0), none, none, none] [] σ := rfl
theorem e36 {X : SX} {σ : SH} {w0 : Int32} : caD X 36 [.int w0] σ = exD X 36 0 [some (.int w0)] [] σ := rfl
theorem e37 {X : SX} {σ : SH} {w0 : Int32} : caD X 37 [.int w0] σ = exD X 37 0 [some (.int w0)] [] σ := rfl
theorem e39 {X : SX} {σ : SH} {b : Nat} {w0 : Int32} : caD X 39 [.ref b, .int w0] σ = exD X 39 0 [some (.ref b), some (.int w0)] [] σ := rfl
theorem e40 {X : SX} {σ : SH} {b : Nat} {w0 : Nat} : caD X 40 [.ref b, .ref w0] σ = exD X 40 0 [some (.ref b), some (.ref w0)] [] σ := rfl
theorem e41 {X : SX} {σ : SH} {b : Nat} {w0 : Int32} {w1 : Int32} {w2 : Int32} : caD X 41 [.ref b, .int w0, .int w1, .int w2] σ = exD X 41 0 [some (.ref b), some (.int w0), some (.int w1), some (.int w2)] [] σ := rfl
theorem e42 {X : SX} {σ : SH} {b : Nat} {w0 : Int32} : caD X 42 [.ref b, .int w0] σ = exD X 42 0 [some (.ref b), some (.int w0)] [] σ := rfl
theorem e43 {X : SX} {σ : SH} {b : Nat} {w0 : Int32} {w1 : Int32} {w2 : Int32} : caD X 43 [.ref b, .int w0, .int w1, .int w2] σ = exD X 43 0 [some (.ref b), some (.int w0), some (.int w1), some (.int w2)] [] σ := rfl
theorem e44 {X : SX} {σ : SH} {b : Nat} {w0 : Int32} : caD X 44 [.ref b, .int w0] σ = exD X 44 0 [some (.ref b), some (.int w0)] [] σ := rfl
theorem e46 {X : SX} {σ : SH} {b : Nat} {w0 : Int32} : caD X 46 [.ref b, .int w0] σ = exD X 46 0 [some (.ref b), some (.int w0)] [] σ := rfl
theorem e47 {X : SX} {σ : SH} {b : Nat} {w0 : Int32} {w1 : Int32} {w2 : Int32} : caD X 47 [.ref b, .int w0, .int w1, .int w2] σ = exD X 47 0 [some (.ref b), some (.int w0), some (.int w1), some (.int w2), none, none, none] [] σ := rfl
theorem e49 {X : SX} {σ : SH} {b : Nat} {w0 : Nat} {w1 : Nat} {w2 : Int32} : caD X 49 [.ref b, .ref w0, .ref w1, .int w2] σ = exD X 49 0 [some (.ref b), some (.ref w0), some (.ref w1), some (.int w2)] [] σ := rfl
theorem e50 {X : SX} {σ : SH} {b : Nat} {w0 : Nat} {w1 : Nat} {w2 : Int32} : caD X 50 [.ref b, .ref w0, .ref w1, .int w2] σ = exD X 50 0 [some (.ref b), some (.ref w0), some (.ref w1), some (.int w2)] [] σ := rfl
theorem e51 {X : SX} {σ : SH} {b : Nat} {w0 : Nat} {w1 : Int32} : caD X 51 [.ref b, .ref w0, .int w1] σ = exD X 51 0 [some (.ref b), some (.ref w0), some (.int w1), none] [] σ := rfl
theorem e52 {X : SX} {σ : SH} {b : Nat} {w0 : Nat} {w1 : Nat} {w2 : Int32} : caD X 52 [.ref b, .ref w0, .ref w1, .int w2] σ = exD X 52 0 [some (.ref b), some (.ref w0), some (.ref w1), some (.int w2), none] [] σ := rfl
theorem e53 {X : SX} {σ : SH} {b : Nat} {w0 : Int32} : caD X 53 [.ref b, .int w0] σ = exD X 53 0 [some (.ref b), some (.int w0), none, none, none] [] σ := rfl
theorem e54 {X : SX} {σ : SH} {b : Nat} {w0 : Nat} {w1 : Int32} {w2 : Int32} : caD X 54 [.ref b, .ref w0, .int w1, .int w2] σ = exD X 54 0 [some (.ref b), some (.ref w0), some (.int w1), some (.int w2), none, none, none] [] σ := rfl
theorem e55 {X : SX} {σ : SH} {b : Nat} : caD X 55 [.ref b] σ = exD X 55 0 [some (.ref b), none, none] [] σ := rfl
theorem e56 {X : SX} {σ : SH} {b : Nat} {w0 : Int32} : caD X 56 [.ref b, .int w0] σ = exD X 56 0 [some (.ref b), some (.int w0), none] [] σ := rfl
theorem e57 {X : SX} {σ : SH} {b : Nat} {w0 : Nat} {w1 : Nat} {w2 : Int32} : caD X 57 [.ref b, .ref w0, .ref w1, .int w2] σ = exD X 57 0 [some (.ref b), some (.ref w0), some (.ref w1), some (.int w2), none, none, none] [] σ := rfl
theorem e58 {X : SX} {σ : SH} {b : Nat} {w0 : Int32} : caD X 58 [.ref b, .int w0] σ = exD X 58 0 [some (.ref b), some (.int w0), none, none, none, none] [] σ := rfl
theorem e60 {X : SX} {σ : SH} {b : Nat} {w0 : Int32} : caD X 60 [.ref b, .int w0] σ = exD X 60 0 [some (.ref b), some (.int w0)] [] σ := rfl
theorem e61 {X : SX} {σ : SH} {b : Nat} {w0 : Nat} : caD X 61 [.ref b, .ref w0] σ = exD X 61 0 [some (.ref b), some (.ref w0)] [] σ := rfl
theorem e62 {X : SX} {σ : SH} {b : Nat} {w0 : Int32} {w1 : Int32} {w2 : Int32} {w3 : Int32} : caD X 62 [.ref b, .int w0, .int w1, .int w2, .int w3] σ = exD X 62 0 [some (.ref b), some (.int w0), some (.int w1), some (.int w2), some (.int w3)] [] σ := rfl
theorem e63 {X : SX} {σ : SH} {b : Nat} {w0 : Int32} {w1 : Int32} {w2 : Int32} : caD X 63 [.ref b, .int w0, .int w1, .int w2] σ = exD X 63 0 [some (.ref b), some (.int w0), some (.int w1), some (.int w2), none, none, none] [] σ := rfl
theorem e64 {X : SX} {σ : SH} {b : Nat} {w0 : Int32} {w1 : Int32} : caD X 64 [.ref b, .int w0, .int w1] σ = exD X 64 0 [some (.ref b), some (.int w0), some (.int w1)] [] σ := rfl
theorem e65 {X : SX} {σ : SH} {b : Nat} {w0 : Int32} : caD X 65 [.ref b, .int w0] σ = exD X 65 0 [some (.ref b), some (.int w0)] [] σ := rfl
theorem e66 {X : SX} {σ : SH} {b : Nat} {w0 : Int32} : caD X 66 [.ref b, .int w0] σ = exD X 66 0 [some (.ref b), some (.int w0)] [] σ := rfl
theorem e67 {X : SX} {σ : SH} {b : Nat} {w0 : Int32} : caD X 67 [.ref b, .int w0] σ = exD X 67 0 [some (.ref b), some (.int w0), none, none] [] σ := rfl
theorem e69 {X : SX} {σ : SH} {b : Nat} {w0 : Int32} {w1 : Int32} : caD X 69 [.ref b, .int w0, .int w1] σ = exD X 69 0 [some (.ref b), some (.int w0), some (.int w1)] [] σ := rfl
theorem e70 {X : SX} {σ : SH} {b : Nat} {w0 : Nat} {w1 : Int32} {w2 : Int32} : caD X 70 [.ref b, .ref w0, .int w1, .int w2] σ = exD X 70 0 [some (.ref b), some (.ref w0), some (.int w1), some (.int w2), none] [] σ := rfl
theorem e71 {X : SX} {σ : SH} {b : Nat} : caD X 71 [.ref b] σ = exD X 71 0 [some (.ref b)] [] σ := rfl
theorem e72 {X : SX} {σ : SH} {b : Nat} {w0 : Nat} {w1 : Int32} {w2 : Nat} {w3 : Nat} {w4 : Int32} : caD X 72 [.ref b, .ref w0, .int w1, .ref w2, .ref w3, .int w4] σ = exD X 72 0 [some (.ref b), some (.ref w0), some (.int w1), some (.ref w2), some (.ref w3), some (.int w4), none, none, none] [] σ := rfl
theorem e74 {X : SX} {σ : SH} {b : Nat} {w0 : Int32} : caD X 74 [.ref b, .int w0] σ = exD X 74 0 [some (.ref b), some (.int w0), none] [] σ := rfl
theorem e75 {X : SX} {σ : SH} {b : Nat} : caD X 75 [.ref b] σ = exD X 75 0 [some (.ref b), none] [] σ := rfl
theorem e76 {X : SX} {σ : SH} {b : Nat} {w0 : Int32} {w1 : Int32} : caD X 76 [.ref b, .int w0, .int w1] σ = exD X 76 0 [some (.ref b), some (.int w0), some (.int w1), none] [] σ := rfl
theorem e77 {X : SX} {σ : SH} {b : Nat} {w0 : Int32} {w1 : Int32} {w2 : Int32} : caD X 77 [.ref b, .int w0, .int w1, .int w2] σ = exD X 77 0 [some (.ref b), some (.int w0), some (.int w1), some (.int w2), none] [] σ := rfl
theorem e78 {X : SX} {σ : SH} {b : Nat} {w0 : Int32} {w1 : Int32} : caD X 78 [.ref b, .int w0, .int w1] σ = exD X 78 0 [some (.ref b), some (.int w0), some (.int w1), none] [] σ := rfl
theorem e79 {X : SX} {σ : SH} {b : Nat} {w0 : Int32} {w1 : Int32} : caD X 79 [.ref b, .int w0, .int w1] σ = exD X 79 0 [some (.ref b), some (.int w0), some (.int w1), none] [] σ := rfl
theorem e80 {X : SX} {σ : SH} {b : Nat} {w0 : Int32} {w1 : Int32} : caD X 80 [.ref b, .int w0, .int w1] σ = exD X 80 0 [some (.ref b), some (.int w0), some (.int w1), none, none] [] σ := rfl
theorem e81 {X : SX} {σ : SH} {b : Nat} {w0 : Int32} {w1 : Int32} : caD X 81 [.ref b, .int w0, .int w1] σ = exD X 81 0 [some (.ref b), some (.int w0), some (.int w1), none, none] [] σ := rfl
theorem e82 {X : SX} {σ : SH} {b : Nat} {w0 : Int32} {w1 : Int32} {w2 : Int32} : caD X 82 [.ref b, .int w0, .int w1, .int w2] σ = exD X 82 0 [some (.ref b), some (.int w0), some (.int w1), some (.int w2), none] [] σ := rfl
theorem e83 {X : SX} {σ : SH} {b : Nat} {w0 : Int32} : caD X 83 [.ref b, .int w0] σ = exD X 83 0 [some (.ref b), some (.int w0), none] [] σ := rfl
theorem e84 {X : SX} {σ : SH} {b : Nat} {w0 : Int32} {w1 : Int32} : caD X 84 [.ref b, .int w0, .int w1] σ = exD X 84 0 [some (.ref b), some (.int w0), some (.int w1), none] [] σ := rfl
theorem e85 {X : SX} {σ : SH} {b : Nat} {w0 : Int32} : caD X 85 [.ref b, .int w0] σ = exD X 85 0 [some (.ref b), some (.int w0)] [] σ := rfl
theorem e86 {X : SX} {σ : SH} {b : Nat} {w0 : Int32} {w1 : Int32} : caD X 86 [.ref b, .int w0, .int w1] σ = exD X 86 0 [some (.ref b), some (.int w0), some (.int w1), none] [] σ := rfl
theorem e87 {X : SX} {σ : SH} {b : Nat} {w0 : Int32} {w1 : Int32} : caD X 87 [.ref b, .int w0, .int w1] σ = exD X 87 0 [some (.ref b), some (.int w0), some (.int w1), none] [] σ := rfl
theorem e88 {X : SX} {σ : SH} {b : Nat} {w0 : Int32} {w1 : Int32} : caD X 88 [.ref b, .int w0, .int w1] σ = exD X 88 0 [some (.ref b), some (.int w0), some (.int w1), none, none] [] σ := rfl
theorem e89 {X : SX} {σ : SH} {b : Nat} : caD X 89 [.ref b] σ = exD X 89 0 [some (.ref b), none] [] σ := rfl
theorem e90 {X : SX} {σ : SH} {b : Nat} : caD X 90 [.ref b] σ = exD X 90 0 [some (.ref b), none] [] σ := rfl
theorem e91 {X : SX} {σ : SH} {b : Nat} {w0 : Int32} {w1 : Int32} {w2 : Int32} : caD X 91 [.ref b, .int w0, .int w1, .int w2] σ = exD X 91 0 [some (.ref b), some (.int w0), some (.int w1), some (.int w2), none, none] [] σ := rfl
theorem e92 {X : SX} {σ : SH} {b : Nat} {w0 : Int32} {w1 : Int32} {w2 : Int32} : caD X 92 [.ref b, .int w0, .int w1, .int w2] σ = exD X 92 0 [some (.ref b), some (.int w0), some (.int w1), some (.int w2), none] [] σ := rfl
theorem e93 {X : SX} {σ : SH} {b : Nat} {w0 : Int32} {w1 : Int32} : caD X 93 [.ref b, .int w0, .int w1] σ = exD X 93 0 [some (.ref b), some (.int w0), some (.int w1), none, none, none, none, none] [] σ := rfl
theorem e94 {X : SX} {σ : SH} {b : Nat} {w0 : Int32} {w1 : Int32} : caD X 94 [.ref b, .int w0, .int w1] σ = exD X 94 0 [some (.ref b), some (.int w0), some (.int w1), none, none, none, none, none, none, none] [] σ := rfl
theorem e95 {X : SX} {σ : SH} {b : Nat} {w0 : Int32} : caD X 95 [.ref b, .int w0] σ = exD X 95 0 [some (.ref b), some (.int w0)] [] σ := rfl
theorem e96 {X : SX} {σ : SH} {b : Nat} : caD X 96 [.ref b] σ = exD X 96 0 [some (.ref b), none] [] σ := rfl
theorem e97 {X : SX} {σ : SH} {b : Nat} {w0 : Int32} : caD X 97 [.ref b, .int w0] σ = exD X 97 0 [some (.ref b), some (.int w0)] [] σ := rfl
theorem e98 {X : SX} {σ : SH} {b : Nat} {w0 : Int32} {w1 : Int32} : caD X 98 [.ref b, .int w0, .int w1] σ = exD X 98 0 [some (.ref b), some (.int w0), some (.int w1)] [] σ := rfl
theorem e99 {X : SX} {σ : SH} {b : Nat} {w0 : Int32} : caD X 99 [.ref b, .int w0] σ = exD X 99 0 [some (.ref b), some (.int w0)] [] σ := rfl
theorem e100 {X : SX} {σ : SH} {b : Nat} {w0 : Int32} {w1 : Int32} {w2 : Int32} : caD X 100 [.ref b, .int w0, .int w1, .int w2] σ = exD X 100 0 [some (.ref b), some (.int w0), some (.int w1), some (.int w2), none] [] σ := rfl
theorem e101 {X : SX} {σ : SH} {b : Nat} {w0 : Int32} {w1 : Int32} {w2 : Int32} {w3 : Int32} : caD X 101 [.ref b, .int w0, .int w1, .int w2, .int w3] σ = exD X 101 0 [some (.ref b), some (.int w0), some (.int w1), some (.int w2), some (.int w3), none, none, none] [] σ := rfl
theorem e102 {X : SX} {σ : SH} {b : Nat} {w0 : Int32} {w1 : Int32} {w2 : Int32} : caD X 102 [.ref b, .int w0, .int w1, .int w2] σ = exD X 102 0 [some (.ref b), some (.int w0), some (.int w1), some (.int w2), none, none, none, none, none] [] σ := rfl
theorem e103 {X : SX} {σ : SH} {b : Nat} {w0 : Int32} {w1 : Int32} : caD X 103 [.ref b, .int w0, .int w1] σ = exD X 103 0 [some (.ref b), some (.int w0), some (.int w1), none] [] σ := rfl
theorem e104 {X : SX} {σ : SH} {b : Nat} {w0 : Int32} {w1 : Int32} : caD X 104 [.ref b, .int w0, .int w1] σ = exD X 104 0 [some (.ref b), some (.int w0), some (.int w1), none, none] [] σ := rfl
theorem e105 {X : SX} {σ : SH} {b : Nat} {w0 : Int32} {w1 : Int32} : caD X 105 [.ref b, .int w0, .int w1] σ = exD X 105 0 [some (.ref b), some (.int w0), some (.int w1), none, none, none] [] σ := rfl
theorem e106 {X : SX} {σ : SH} {b : Nat} : caD X 106 [.ref b] σ = exD X 106 0 [some (.ref b)] [] σ := rfl
theorem e107 {X : SX} {σ : SH} {b : Nat} : caD X 107 [.ref b] σ = exD X 107 0 [some (.ref b)] [] σ := rfl
theorem e108 {X : SX} {σ : SH} {b : Nat} {w0 : Int32} : caD X 108 [.ref b, .int w0] σ = exD X 108 0 [some (.ref b), some (.int w0)] [] σ := rfl
theorem e109 {X : SX} {σ : SH} {b : Nat} {w0 : Int32} : caD X 109 [.ref b, .int w0] σ = exD X 109 0 [some (.ref b), some (.int w0), none] [] σ := rfl
theorem e110 {X : SX} {σ : SH} {b : Nat} {w0 : Int32} {w1 : Int32} : caD X 110 [.ref b, .int w0, .int w1] σ = exD X 110 0 [some (.ref b), some (.int w0), some (.int w1)] [] σ := rfl
theorem e111 {X : SX} {σ : SH} {b : Nat} {w0 : Int32} {w1 : Int32} {w2 : Int32} : caD X 111 [.ref b, .int w0, .int w1, .int w2] σ = exD X 111 0 [some (.ref b), some (.int w0), some (.int w1), some (.int w2), none] [] σ := rfl
theorem e112 {X : SX} {σ : SH} {b : Nat} : caD X 112 [.ref b] σ = exD X 112 0 [some (.ref b), none, none, none, none] [] σ := rfl
theorem e113 {X : SX} {σ : SH} {b : Nat} {w0 : Int32} {w1 : Int32} : caD X 113 [.ref b, .int w0, .int w1] σ = exD X 113 0 [some (.ref b), some (.int w0), some (.int w1), none, none, none] [] σ := rfl
theorem e114 {X : SX} {σ : SH} {w0 : Int32} {w1 : Int32} {w2 : Int32} : caD X 114 [.int w0, .int w1, .int w2] σ = exD X 114 0 [some (.int w0), some (.int w1), some (.int w2)] [] σ := rfl
theorem e115 {X : SX} {σ : SH} {w0 : Int32} {w1 : Int32} : caD X 115 [.int w0, .int w1] σ = exD X 115 0 [some (.int w0), some (.int w1)] [] σ := rfl
theorem e116 {X : SX} {σ : SH} {w0 : Int32} {w1 : Int32} : caD X 116 [.int w0, .int w1] σ = exD X 116 0 [some (.int w0), some (.int w1)] [] σ := rfl
theorem e117 {X : SX} {σ : SH} {w0 : Nat} : caD X 117 [.ref w0] σ = exD X 117 0 [some (.ref w0), none, none, none, none, none] [] σ := rfl
theorem e118 {X : SX} {σ : SH} {w0 : Int64} {w1 : Int64} {w2 : Int32} : caD X 118 [.long w0, .long w1, .int w2] σ = exD X 118 0 [some (.long w0), none, some (.long w1), none, some (.int w2), none, none] [] σ := rfl
theorem e119 {X : SX} {σ : SH} {w0 : Int64} {w1 : Int64} : caD X 119 [.long w0, .long w1] σ = exD X 119 0 [some (.long w0), none, some (.long w1), none, none, none, none, none, none, none, none] [] σ := rfl
theorem e121 {X : SX} {σ : SH} {b : Nat} {w0 : Int32} : caD X 121 [.ref b, .int w0] σ = exD X 121 0 [some (.ref b), some (.int w0)] [] σ := rfl
theorem e122 {X : SX} {σ : SH} {b : Nat} {w0 : Int32} : caD X 122 [.ref b, .int w0] σ = exD X 122 0 [some (.ref b), some (.int w0)] [] σ := rfl
theorem e123 {X : SX} {σ : SH} {b : Nat} {w0 : Int32} : caD X 123 [.ref b, .int w0] σ = exD X 123 0 [some (.ref b), some (.int w0)] [] σ := rfl
theorem e124 {X : SX} {σ : SH} {w0 : Int32} {w1 : Int32} {w2 : Int32} : caD X 124 [.int w0, .int w1, .int w2] σ = exD X 124 0 [some (.int w0), some (.int w1), some (.int w2)] [] σ := rfl
theorem e125 {X : SX} {σ : SH} {w0 : Int32} {w1 : Int32} {w2 : Int32} : caD X 125 [.int w0, .int w1, .int w2] σ = exD X 125 0 [some (.int w0), some (.int w1), some (.int w2)] [] σ := rfl
theorem e126 {X : SX} {σ : SH} {b : Nat} {w0 : Int32} : caD X 126 [.ref b, .int w0] σ = exD X 126 0 [some (.ref b), some (.int w0)] [] σ := rfl
theorem e127 {X : SX} {σ : SH} {b : Nat} {w0 : Int32} : caD X 127 [.ref b, .int w0] σ = exD X 127 0 [some (.ref b), some (.int w0)] [] σ := rfl
theorem e128 {X : SX} {σ : SH} {b : Nat} {w0 : Int32} : caD X 128 [.ref b, .int w0] σ = exD X 128 0 [some (.ref b), some (.int w0)] [] σ := rfl
theorem e129 {X : SX} {σ : SH} {w0 : Int32} {w1 : Int32} : caD X 129 [.int w0, .int w1] σ = exD X 129 0 [some (.int w0), some (.int w1)] [] σ := rfl
theorem e130 {X : SX} {σ : SH} {b : Nat} {w0 : Int32} : caD X 130 [.ref b, .int w0] σ = exD X 130 0 [some (.ref b), some (.int w0), none] [] σ := rfl
theorem e131 {X : SX} {σ : SH} {b : Nat} : caD X 131 [.ref b] σ = exD X 131 0 [some (.ref b)] [] σ := rfl
theorem e132 {X : SX} {σ : SH} {b : Nat} {w0 : Int32} {w1 : Int32} : caD X 132 [.ref b, .int w0, .int w1] σ = exD X 132 0 [some (.ref b), some (.int w0), some (.int w1), none, none] [] σ := rfl
theorem e133 {X : SX} {σ : SH} {b : Nat} {w0 : Int32} {w1 : Int32} {w2 : Int32} : caD X 133 [.ref b, .int w0, .int w1, .int w2] σ = exD X 133 0 [some (.ref b), some (.int w0), some (.int w1), some (.int w2), none] [] σ := rfl
theorem e134 {X : SX} {σ : SH} {w0 : Int32} : caD X 134 [.int w0] σ = exD X 134 0 [some (.int w0)] [] σ := rfl
theorem e135 {X : SX} {σ : SH} {b : Nat} : caD X 135 [.ref b] σ = exD X 135 0 [some (.ref b), none, none] [] σ := rfl
theorem e136 {X : SX} {σ : SH} {b : Nat} {w0 : Int32} {w1 : Int32} : caD X 136 [.ref b, .int w0, .int w1] σ = exD X 136 0 [some (.ref b), some (.int w0), some (.int w1)] [] σ := rfl
theorem e137 {X : SX} {σ : SH} {b : Nat} {w0 : Int32} : caD X 137 [.ref b, .int w0] σ = exD X 137 0 [some (.ref b), some (.int w0)] [] σ := rfl
theorem e138 {X : SX} {σ : SH} {b : Nat} {w0 : Int32} : caD X 138 [.ref b, .int w0] σ = exD X 138 0 [some (.ref b), some (.int w0)] [] σ := rfl
theorem e139 {X : SX} {σ : SH} {b : Nat} {w0 : Int32} {w1 : Int32} {w2 : Int32} : caD X 139 [.ref b, .int w0, .int w1, .int w2] σ = exD X 139 0 [some (.ref b), some (.int w0), some (.int w1), some (.int w2)] [] σ := rfl
theorem e140 {X : SX} {σ : SH} {b : Nat} {w0 : Int32} : caD X 140 [.ref b, .int w0] σ = exD X 140 0 [some (.ref b), some (.int w0), none] [] σ := rfl
theorem e141 {X : SX} {σ : SH} {b : Nat} : caD X 141 [.ref b] σ = exD X 141 0 [some (.ref b), none, none] [] σ := rfl
theorem e142 {X : SX} {σ : SH} {b : Nat} {w0 : Nat} : caD X 142 [.ref b, .ref w0] σ = exD X 142 0 [some (.ref b), some (.ref w0), none] [] σ := rfl
theorem e143 {X : SX} {σ : SH} {b : Nat} {w0 : Int32} : caD X 143 [.ref b, .int w0] σ = exD X 143 0 [some (.ref b), some (.int w0), none] [] σ := rfl
theorem e144 {X : SX} {σ : SH} {b : Nat} {w0 : Int32} {w1 : Int32} : caD X 144 [.ref b, .int w0, .int w1] σ = exD X 144 0 [some (.ref b), some (.int w0), some (.int w1)] [] σ := rfl
theorem e145 {X : SX} {σ : SH} {b : Nat} : caD X 145 [.ref b] σ = exD X 145 0 [some (.ref b)] [] σ := rfl
theorem e146 {X : SX} {σ : SH} {b : Nat} : caD X 146 [.ref b] σ = exD X 146 0 [some (.ref b)] [] σ := rfl
theorem e147 {X : SX} {σ : SH} {b : Nat} {w0 : Int32} {w1 : Int32} : caD X 147 [.ref b, .int w0, .int w1] σ = exD X 147 0 [some (.ref b), some (.int w0), some (.int w1), none, none, none] [] σ := rfl
theorem e148 {X : SX} {σ : SH} {b : Nat} {w0 : Int32} : caD X 148 [.ref b, .int w0] σ = exD X 148 0 [some (.ref b), some (.int w0)] [] σ := rfl
theorem e149 {X : SX} {σ : SH} {b : Nat} {w0 : Int32} {w1 : Int32} {w2 : Int32} : caD X 149 [.ref b, .int w0, .int w1, .int w2] σ = exD X 149 0 [some (.ref b), some (.int w0), some (.int w1), some (.int w2), none, none, none, none] [] σ := rfl
theorem e150 {X : SX} {σ : SH} {b : Nat} {w0 : Int32} {w1 : Int32} {w2 : Int32} : caD X 150 [.ref b, .int w0, .int w1, .int w2] σ = exD X 150 0 [some (.ref b), some (.int w0), some (.int w1), some (.int w2), none] [] σ := rfl
theorem e151 {X : SX} {σ : SH} {b : Nat} {w0 : Int32} {w1 : Int32} : caD X 151 [.ref b, .int w0, .int w1] σ = exD X 151 0 [some (.ref b), some (.int w0), some (.int w1)] [] σ := rfl
theorem e152 {X : SX} {σ : SH} {b : Nat} {w0 : Int32} {w1 : Int32} {w2 : Int32} : caD X 152 [.ref b, .int w0, .int w1, .int w2] σ = exD X 152 0 [some (.ref b), some (.int w0), some (.int w1), some (.int w2)] [] σ := rfl
theorem e153 {X : SX} {σ : SH} {b : Nat} {w0 : Int32} {w1 : Int32} : caD X 153 [.ref b, .int w0, .int w1] σ = exD X 153 0 [some (.ref b), some (.int w0), some (.int w1)] [] σ := rfl
theorem e154 {X : SX} {σ : SH} {b : Nat} {w0 : Int32} : caD X 154 [.ref b, .int w0] σ = exD X 154 0 [some (.ref b), some (.int w0)] [] σ := rfl
theorem e155 {X : SX} {σ : SH} {b : Nat} {w0 : Int32} {w1 : Int32} : caD X 155 [.ref b, .int w0, .int w1] σ = exD X 155 0 [some (.ref b), some (.int w0), some (.int w1)] [] σ := rfl
theorem e156 {X : SX} {σ : SH} {b : Nat} {w0 : Int32} {w1 : Int32} : caD X 156 [.ref b, .int w0, .int w1] σ = exD X 156 0 [some (.ref b), some (.int w0), some (.int w1), none, none] [] σ := rfl
theorem e157 {X : SX} {σ : SH} {b : Nat} {w0 : Int32} {w1 : Int32} : caD X 157 [.ref b, .int w0, .int w1] σ = exD X 157 0 [some (.ref b), some (.int w0), some (.int w1), none, none] [] σ := rfl
theorem e158 {X : SX} {σ : SH} {b : Nat} {w0 : Int32} {w1 : Int32} {w2 : Int32} : caD X 158 [.ref b, .int w0, .int w1, .int w2] σ = exD X 158 0 [some (.ref b), some (.int w0), some (.int w1), some (.int w2), none] [] σ := rfl
theorem e159 {X : SX} {σ : SH} {b : Nat} {w0 : Int32} : caD X 159 [.ref b, .int w0] σ = exD X 159 0 [some (.ref b), some (.int w0), none] [] σ := rfl
theorem e160 {X : SX} {σ : SH} {b : Nat} {w0 : Int32} {w1 : Int32} : caD X 160 [.ref b, .int w0, .int w1] σ = exD X 160 0 [some (.ref b), some (.int w0), some (.int w1)] [] σ := rfl
theorem e161 {X : SX} {σ : SH} {b : Nat} {w0 : Int32} {w1 : Int32} {w2 : Int32} : caD X 161 [.ref b, .int w0, .int w1, .int w2] σ = exD X 161 0 [some (.ref b), some (.int w0), some (.int w1), some (.int w2), none] [] σ := rfl
theorem e162 {X : SX} {σ : SH} {b : Nat} {w0 : Int32} {w1 : Int32} : caD X 162 [.ref b, .int w0, .int w1] σ = exD X 162 0 [some (.ref b), some (.int w0), some (.int w1)] [] σ := rfl
theorem e163 {X : SX} {σ : SH} {b : Nat} {w0 : Int32} : caD X 163 [.ref b, .int w0] σ = exD X 163 0 [some (.ref b), some (.int w0)] [] σ := rfl
theorem e164 {X : SX} {σ : SH} {b : Nat} {w0 : Int32} : caD X 164 [.ref b, .int w0] σ = exD X 164 0 [some (.ref b), some (.int w0)] [] σ := rfl
theorem e165 {X : SX} {σ : SH} {b : Nat} {w0 : Int32} {w1 : Int32} {w2 : Int32} {w3 : Int32} : caD X 165 [.ref b, .int w0, .int w1, .int w2, .int w3] σ = exD X 165 0 [some (.ref b), some (.int w0), some (.int w1), some (.int w2), some (.int w3), none] [] σ := rfl
theorem e166 {X : SX} {σ : SH} {b : Nat} {w0 : Int32} {w1 : Int32} : caD X 166 [.ref b, .int w0, .int w1] σ = exD X 166 0 [some (.ref b), some (.int w0), some (.int w1)] [] σ := rfl
theorem e167 {X : SX} {σ : SH} {b : Nat} {w0 : Int32} {w1 : Int32} : caD X 167 [.ref b, .int w0, .int w1] σ = exD X 167 0 [some (.ref b), some (.int w0), some (.int w1), none] [] σ := rfl
theorem e168 {X : SX} {σ : SH} {b : Nat} {w0 : Int32} : caD X 168 [.ref b, .int w0] σ = exD X 168 0 [some (.ref b), some (.int w0), none] [] σ := rfl
theorem e169 {X : SX} {σ : SH} {b : Nat} {w0 : Int32} {w1 : Int32} : caD X 169 [.ref b, .int w0, .int w1] σ = exD X 169 0 [some (.ref b), some (.int w0), some (.int w1), none, none, none] [] σ := rfl
theorem e170 {X : SX} {σ : SH} {b : Nat} {w0 : Int32} {w1 : Int32} : caD X 170 [.ref b, .int w0, .int w1] σ = exD X 170 0 [some (.ref b), some (.int w0), some (.int w1), none] [] σ := rfl
theorem e171 {X : SX} {σ : SH} {b : Nat} {w0 : Int32} {w1 : Int32} : caD X 171 [.ref b, .int w0, .int w1] σ = exD X 171 0 [some (.ref b), some (.int w0), some (.int w1), none, none] [] σ := rfl
theorem e172 {X : SX} {σ : SH} {b : Nat} {w0 : Int32} {w1 : Int32} : caD X 172 [.ref b, .int w0, .int w1] σ = exD X 172 0 [some (.ref b), some (.int w0), some (.int w1), none] [] σ := rfl
theorem e173 {X : SX} {σ : SH} {b : Nat} : caD X 173 [.ref b] σ = exD X 173 0 [some (.ref b)] [] σ := rfl
theorem e174 {X : SX} {σ : SH} {b : Nat} : caD X 174 [.ref b] σ = exD X 174 0 [some (.ref b), none, none, none, none] [] σ := rfl
theorem e175 {X : SX} {σ : SH} {b : Nat} {w0 : Int32} {w1 : Int32} {w2 : Int32} : caD X 175 [.ref b, .int w0, .int w1, .int w2] σ = exD X 175 0 [some (.ref b), some (.int w0), some (.int w1), some (.int w2), none] [] σ := rfl
theorem e176 {X : SX} {σ : SH} {b : Nat} {w0 : Int32} {w1 : Int32} {w2 : Int32} : caD X 176 [.ref b, .int w0, .int w1, .int w2] σ = exD X 176 0 [some (.ref b), some (.int w0), some (.int w1), some (.int w2), none] [] σ := rfl
theorem e177 {X : SX} {σ : SH} {b : Nat} {w0 : Int32} {w1 : Int32} : caD X 177 [.ref b, .int w0, .int w1] σ = exD X 177 0 [some (.ref b), some (.int w0), some (.int w1), none, none, none, none, none] [] σ := rfl
theorem e178 {X : SX} {σ : SH} {b : Nat} {w0 : Int32} {w1 : Int32} : caD X 178 [.ref b, .int w0, .int w1] σ = exD X 178 0 [some (.ref b), some (.int w0), some (.int w1), none, none, none, none, none, none] [] σ := rfl
theorem e179 {X : SX} {σ : SH} {b : Nat} {w0 : Int32} : caD X 179 [.ref b, .int w0] σ = exD X 179 0 [some (.ref b), some (.int w0)] [] σ := rfl
theorem e180 {X : SX} {σ : SH} {b : Nat} : caD X 180 [.ref b] σ = exD X 180 0 [some (.ref b), none] [] σ := rfl
theorem e181 {X : SX} {σ : SH} {b : Nat} : caD X 181 [.ref b] σ = exD X 181 0 [some (.ref b), none] [] σ := rfl
theorem e182 {X : SX} {σ : SH} {b : Nat} {w0 : Int32} {w1 : Int32} : caD X 182 [.ref b, .int w0, .int w1] σ = exD X 182 0 [some (.ref b), some (.int w0), some (.int w1), none, none, none] [] σ := rfl
theorem e183 {X : SX} {σ : SH} {b : Nat} {w0 : Int32} : caD X 183 [.ref b, .int w0] σ = exD X 183 0 [some (.ref b), some (.int w0), none] [] σ := rfl
theorem e184 {X : SX} {σ : SH} {b : Nat} {w0 : Int32} {w1 : Int32} : caD X 184 [.ref b, .int w0, .int w1] σ = exD X 184 0 [some (.ref b), some (.int w0), some (.int w1), none] [] σ := rfl
theorem e185 {X : SX} {σ : SH} {b : Nat} {w0 : Int32} {w1 : Int32} : caD X 185 [.ref b, .int w0, .int w1] σ = exD X 185 0 [some (.ref b), some (.int w0), some (.int w1)] [] σ := rfl
theorem e186 {X : SX} {σ : SH} {b : Nat} {w0 : Int32} : caD X 186 [.ref b, .int w0] σ = exD X 186 0 [some (.ref b), some (.int w0), none, none, none] [] σ := rfl
theorem e187 {X : SX} {σ : SH} {b : Nat} {w0 : Int32} : caD X 187 [.ref b, .int w0] σ = exD X 187 0 [some (.ref b), some (.int w0)] [] σ := rfl
theorem e188 {X : SX} {σ : SH} {b : Nat} {w0 : Int32} {w1 : Int32} {w2 : Int32} : caD X 188 [.ref b, .int w0, .int w1, .int w2] σ = exD X 188 0 [some (.ref b), some (.int w0), some (.int w1), some (.int w2), none, none, none, none, none, none, none, none] [] σ := rfl
theorem e189 {X : SX} {σ : SH} {b : Nat} {w0 : Int32} {w1 : Int32} : caD X 189 [.ref b, .int w0, .int w1] σ = exD X 189 0 [some (.ref b), some (.int w0), some (.int w1), none, none, none] [] σ := rfl
theorem e190 {X : SX} {σ : SH} {b : Nat} {w0 : Int32} {w1 : Int32} : caD X 190 [.ref b, .int w0, .int w1] σ = exD X 190 0 [some (.ref b), some (.int w0), some (.int w1), none, none, none] [] σ := rfl
theorem e191 {X : SX} {σ : SH} {w0 : Int64} {w1 : Int64} : caD X 191 [.long w0, .long w1] σ = exD X 191 0 [some (.long w0), none, some (.long w1), none, none, none, none, none, none, none] [] σ := rfl
theorem e192 {X : SX} {σ : SH} {w0 : Int64} {w1 : Int64} {w2 : Int32} : caD X 192 [.long w0, .long w1, .int w2] σ = exD X 192 0 [some (.long w0), none, some (.long w1), none, some (.int w2)] [] σ := rfl
theorem e193 {X : SX} {σ : SH} {b : Nat} {w0 : Int32} {w1 : Int32} {w2 : Int32} {w3 : Int32} : caD X 193 [.ref b, .int w0, .int w1, .int w2, .int w3] σ = exD X 193 0 [some (.ref b), some (.int w0), some (.int w1), some (.int w2), some (.int w3), none, none, none] [] σ := rfl
theorem e194 {X : SX} {σ : SH} {b : Nat} {w0 : Int32} {w1 : Int32} {w2 : Int32} : caD X 194 [.ref b, .int w0, .int w1, .int w2] σ = exD X 194 0 [some (.ref b), some (.int w0), some (.int w1), some (.int w2), none, none, none] [] σ := rfl
theorem e195 {X : SX} {σ : SH} {b : Nat} {w0 : Int32} {w1 : Int32} : caD X 195 [.ref b, .int w0, .int w1] σ = exD X 195 0 [some (.ref b), some (.int w0), some (.int w1), none, none, none] [] σ := rfl
theorem e196 {X : SX} {σ : SH} {b : Nat} {w0 : Int32} {w1 : Int32} : caD X 196 [.ref b, .int w0, .int w1] σ = exD X 196 0 [some (.ref b), some (.int w0), some (.int w1), none, none, none] [] σ := rfl
theorem e197 {X : SX} {σ : SH} {b : Nat} {w0 : Int32} {w1 : Int32} : caD X 197 [.ref b, .int w0, .int w1] σ = exD X 197 0 [some (.ref b), some (.int w0), some (.int w1), none, none, none] [] σ := rfl
theorem e198 {X : SX} {σ : SH} {b : Nat} : caD X 198 [.ref b] σ = exD X 198 0 [some (.ref b), none, none] [] σ := rfl
theorem e199 {X : SX} {σ : SH} {b : Nat} {w0 : Int32} : caD X 199 [.ref b, .int w0] σ = exD X 199 0 [some (.ref b), some (.int w0), none, none, none, none, none] [] σ := rfl
theorem e200 {X : SX} {σ : SH} {w0 : Nat} {w1 : Int32} : caD X 200 [.ref w0, .int w1] σ = exD X 200 0 [some (.ref w0), some (.int w1), none, none] [] σ := rfl
