section
def dL_law_304 := bL_law_280.2.2.2.2.2.2.2.2.2.2.2.2.2.2.2.1
theorem bL_law_306 : fac cL_law [(306, .iconst 1, 1), (307, .iadd, 1), (308, .iaload, 1), (309, .invokevirtual 117, 3), (312, .istore 6, 2), (314, .goto 1027, 3), (317, .aload_n 1, 1), (318, .invokevirtual 118, 3), (321, .pop, 1), (322, .aload_n 2, 1), (323, .invokevirtual 122, 3), (326, .pop, 1), (327, .goto 1014, 3), (330, .aload_n 1, 1), (331, .aload_n 0, 1), (332, .iload 4, 2)] := fac_all 306 _ (by decide +kernel)
def dL_law_306 := bL_law_306.1
def dL_law_307 := bL_law_306.2.1
def dL_law_308 := bL_law_306.2.2.1
def dL_law_309 := bL_law_306.2.2.2.1
def dL_law_312 := bL_law_306.2.2.2.2.1
def dL_law_314 := bL_law_306.2.2.2.2.2.1
def dL_law_317 := bL_law_306.2.2.2.2.2.2.1
def dL_law_318 := bL_law_306.2.2.2.2.2.2.2.1
def dL_law_321 := bL_law_306.2.2.2.2.2.2.2.2.1
def dL_law_322 := bL_law_306.2.2.2.2.2.2.2.2.2.1
def dL_law_323 := bL_law_306.2.2.2.2.2.2.2.2.2.2.1
def dL_law_326 := bL_law_306.2.2.2.2.2.2.2.2.2.2.2.1
def dL_law_327 := bL_law_306.2.2.2.2.2.2.2.2.2.2.2.2.1
def dL_law_330 := bL_law_306.2.2.2.2.2.2.2.2.2.2.2.2.2.1
def dL_law_331 := bL_law_306.2.2.2.2.2.2.2.2.2.2.2.2.2.2.1
def dL_law_332 := bL_law_306.2.2.2.2.2.2.2.2.2.2.2.2.2.2.2.1
theorem bL_law_334 : fac cL_law [(334, .iconst 1, 1), (335, .iadd, 1), (336, .iaload, 1), (337, .aload_n 3, 1), (338, .invokestatic 123, 3), (341, .istore 5, 2), (343, .aload_n 2, 1), (344, .aload_n 0, 1), (345, .iload 4, 2), (347, .iconst 1, 1), (348, .iadd, 1), (349, .iaload, 1), (350, .invokevirtual 125, 3), (353, .istore 6, 2), (355, .goto 986, 3), (358, .aload_n 1, 1)] := fac_all 334 _ (by decide +kernel)
def dL_law_334 := bL_law_334.1
def dL_law_335 := bL_law_334.2.1
def dL_law_336 := bL_law_334.2.2.1
def dL_law_337 := bL_law_334.2.2.2.1
def dL_law_338 := bL_law_334.2.2.2.2.1
def dL_law_341 := bL_law_334.2.2.2.2.2.1
def dL_law_343 := bL_law_334.2.2.2.2.2.2.1
def dL_law_344 := bL_law_334.2.2.2.2.2.2.2.1
def dL_law_345 := bL_law_334.2.2.2.2.2.2.2.2.1
def dL_law_347 := bL_law_334.2.2.2.2.2.2.2.2.2.1
def dL_law_348 := bL_law_334.2.2.2.2.2.2.2.2.2.2.1
def dL_law_349 := bL_law_334.2.2.2.2.2.2.2.2.2.2.2.1
def dL_law_350 := bL_law_334.2.2.2.2.2.2.2.2.2.2.2.2.1
def dL_law_353 := bL_law_334.2.2.2.2.2.2.2.2.2.2.2.2.2.1
def dL_law_355 := bL_law_334.2.2.2.2.2.2.2.2.2.2.2.2.2.2.1
def dL_law_358 := bL_law_334.2.2.2.2.2.2.2.2.2.2.2.2.2.2.2.1
theorem bL_law_359 : fac cL_law [(359, .aload_n 0, 1), (360, .iload 4, 2), (362, .iconst 1, 1), (363, .iadd, 1), (364, .iaload, 1), (365, .aload_n 0, 1), (366, .iload 4, 2), (368, .iconst 2, 1), (369, .iadd, 1), (370, .iaload, 1), (371, .aload_n 3, 1), (372, .invokestatic 126, 3), (375, .istore 5, 2), (377, .aload_n 2, 1), (378, .aload_n 0, 1), (379, .iload 4, 2)] := fac_all 359 _ (by decide +kernel)
def dL_law_359 := bL_law_359.1
def dL_law_360 := bL_law_359.2.1
def dL_law_362 := bL_law_359.2.2.1
def dL_law_363 := bL_law_359.2.2.2.1
def dL_law_364 := bL_law_359.2.2.2.2.1
def dL_law_365 := bL_law_359.2.2.2.2.2.1
def dL_law_366 := bL_law_359.2.2.2.2.2.2.1
def dL_law_368 := bL_law_359.2.2.2.2.2.2.2.1
def dL_law_369 := bL_law_359.2.2.2.2.2.2.2.2.1
def dL_law_370 := bL_law_359.2.2.2.2.2.2.2.2.2.1
def dL_law_371 := bL_law_359.2.2.2.2.2.2.2.2.2.2.1
def dL_law_372 := bL_law_359.2.2.2.2.2.2.2.2.2.2.2.1
def dL_law_375 := bL_law_359.2.2.2.2.2.2.2.2.2.2.2.2.1
def dL_law_377 := bL_law_359.2.2.2.2.2.2.2.2.2.2.2.2.2.1
def dL_law_378 := bL_law_359.2.2.2.2.2.2.2.2.2.2.2.2.2.2.1
def dL_law_379 := bL_law_359.2.2.2.2.2.2.2.2.2.2.2.2.2.2.2.1
theorem bL_law_381 : fac cL_law [(381, .iconst 1, 1), (382, .iadd, 1), (383, .iaload, 1), (384, .aload_n 0, 1), (385, .iload 4, 2), (387, .iconst 2, 1), (388, .iadd, 1), (389, .iaload, 1), (390, .invokevirtual 129, 3), (393, .istore 6, 2), (395, .goto 946, 3), (398, .aload_n 1, 1), (399, .aload_n 0, 1), (400, .iload 4, 2), (402, .iconst 1, 1), (403, .iadd, 1)] := fac_all 381 _ (by decide +kernel)
def dL_law_381 := bL_law_381.1
def dL_law_382 := bL_law_381.2.1
def dL_law_383 := bL_law_381.2.2.1
def dL_law_384 := bL_law_381.2.2.2.1
def dL_law_385 := bL_law_381.2.2.2.2.1
def dL_law_387 := bL_law_381.2.2.2.2.2.1
def dL_law_388 := bL_law_381.2.2.2.2.2.2.1
def dL_law_389 := bL_law_381.2.2.2.2.2.2.2.1
def dL_law_390 := bL_law_381.2.2.2.2.2.2.2.2.1
def dL_law_393 := bL_law_381.2.2.2.2.2.2.2.2.2.1
def dL_law_395 := bL_law_381.2.2.2.2.2.2.2.2.2.2.1
def dL_law_398 := bL_law_381.2.2.2.2.2.2.2.2.2.2.2.1
def dL_law_399 := bL_law_381.2.2.2.2.2.2.2.2.2.2.2.2.1
def dL_law_400 := bL_law_381.2.2.2.2.2.2.2.2.2.2.2.2.2.1
def dL_law_402 := bL_law_381.2.2.2.2.2.2.2.2.2.2.2.2.2.2.1
def dL_law_403 := bL_law_381.2.2.2.2.2.2.2.2.2.2.2.2.2.2.2.1
theorem bL_law_404 : fac cL_law [(404, .iaload, 1), (405, .aload_n 0, 1), (406, .iload 4, 2), (408, .iconst 2, 1), (409, .iadd, 1), (410, .iaload, 1), (411, .aload_n 3, 1), (412, .invokestatic 130, 3), (415, .istore 5, 2), (417, .aload_n 2, 1), (418, .aload_n 0, 1), (419, .iload 4, 2), (421, .iconst 1, 1), (422, .iadd, 1), (423, .iaload, 1), (424, .aload_n 0, 1)] := fac_all 404 _ (by decide +kernel)
def dL_law_404 := bL_law_404.1
def dL_law_405 := bL_law_404.2.1
def dL_law_406 := bL_law_404.2.2.1
def dL_law_408 := bL_law_404.2.2.2.1
def dL_law_409 := bL_law_404.2.2.2.2.1
def dL_law_410 := bL_law_404.2.2.2.2.2.1
def dL_law_411 := bL_law_404.2.2.2.2.2.2.1
def dL_law_412 := bL_law_404.2.2.2.2.2.2.2.1
def dL_law_415 := bL_law_404.2.2.2.2.2.2.2.2.1
def dL_law_417 := bL_law_404.2.2.2.2.2.2.2.2.2.1
def dL_law_418 := bL_law_404.2.2.2.2.2.2.2.2.2.2.1
def dL_law_419 := bL_law_404.2.2.2.2.2.2.2.2.2.2.2.1
def dL_law_421 := bL_law_404.2.2.2.2.2.2.2.2.2.2.2.2.1
def dL_law_422 := bL_law_404.2.2.2.2.2.2.2.2.2.2.2.2.2.1
def dL_law_423 := bL_law_404.2.2.2.2.2.2.2.2.2.2.2.2.2.2.1
def dL_law_424 := bL_law_404.2.2.2.2.2.2.2.2.2.2.2.2.2.2.2.1
theorem bL_law_425 : fac cL_law [(425, .iload 4, 2), (427, .iconst 2, 1), (428, .iadd, 1), (429, .iaload, 1), (430, .invokevirtual 132, 3), (433, .istore 6, 2), (435, .goto 906, 3), (438, .aload_n 1, 1), (439, .aload_n 0, 1), (440, .iload 4, 2), (442, .iconst 1, 1), (443, .iadd, 1), (444, .iaload, 1), (445, .aload_n 0, 1), (446, .iload 4, 2), (448, .iconst 2, 1)] := fac_all 425 _ (by decide +kernel)
def dL_law_425 := bL_law_425.1
def dL_law_427 := bL_law_425.2.1
def dL_law_428 := bL_law_425.2.2.1
def dL_law_429 := bL_law_425.2.2.2.1
def dL_law_430 := bL_law_425.2.2.2.2.1
def dL_law_433 := bL_law_425.2.2.2.2.2.1
def dL_law_435 := bL_law_425.2.2.2.2.2.2.1
def dL_law_438 := bL_law_425.2.2.2.2.2.2.2.1
def dL_law_439 := bL_law_425.2.2.2.2.2.2.2.2.1
def dL_law_440 := bL_law_425.2.2.2.2.2.2.2.2.2.1
def dL_law_442 := bL_law_425.2.2.2.2.2.2.2.2.2.2.1
def dL_law_443 := bL_law_425.2.2.2.2.2.2.2.2.2.2.2.1
def dL_law_444 := bL_law_425.2.2.2.2.2.2.2.2.2.2.2.2.1
def dL_law_445 := bL_law_425.2.2.2.2.2.2.2.2.2.2.2.2.2.1
def dL_law_446 := bL_law_425.2.2.2.2.2.2.2.2.2.2.2.2.2.2.1
def dL_law_448 := bL_law_425.2.2.2.2.2.2.2.2.2.2.2.2.2.2.2.1
theorem bL_law_449 : fac cL_law [(449, .iadd, 1), (450, .iaload, 1), (451, .aload_n 3, 1), (452, .invokestatic 133, 3), (455, .istore 5, 2), (457, .aload_n 2, 1), (458, .aload_n 0, 1), (459, .iload 4, 2), (461, .iconst 1, 1), (462, .iadd, 1), (463, .iaload, 1), (464, .aload_n 0, 1), (465, .iload 4, 2), (467, .iconst 2, 1), (468, .iadd, 1), (469, .iaload, 1)] := fac_all 449 _ (by decide +kernel)
def dL_law_449 := bL_law_449.1
def dL_law_450 := bL_law_449.2.1
def dL_law_451 := bL_law_449.2.2.1
def dL_law_452 := bL_law_449.2.2.2.1
def dL_law_455 := bL_law_449.2.2.2.2.1
def dL_law_457 := bL_law_449.2.2.2.2.2.1
def dL_law_458 := bL_law_449.2.2.2.2.2.2.1
def dL_law_459 := bL_law_449.2.2.2.2.2.2.2.1
def dL_law_461 := bL_law_449.2.2.2.2.2.2.2.2.1
def dL_law_462 := bL_law_449.2.2.2.2.2.2.2.2.2.1
def dL_law_463 := bL_law_449.2.2.2.2.2.2.2.2.2.2.1
def dL_law_464 := bL_law_449.2.2.2.2.2.2.2.2.2.2.2.1
def dL_law_465 := bL_law_449.2.2.2.2.2.2.2.2.2.2.2.2.1
def dL_law_467 := bL_law_449.2.2.2.2.2.2.2.2.2.2.2.2.2.1
def dL_law_468 := bL_law_449.2.2.2.2.2.2.2.2.2.2.2.2.2.2.1
def dL_law_469 := bL_law_449.2.2.2.2.2.2.2.2.2.2.2.2.2.2.2.1
theorem bL_law_470 : fac cL_law [(470, .invokevirtual 135, 3), (473, .istore 6, 2), (475, .goto 866, 3), (478, .aload_n 1, 1), (479, .aload_n 0, 1), (480, .iload 4, 2), (482, .iconst 1, 1), (483, .iadd, 1), (484, .iaload, 1), (485, .aload_n 3, 1), (486, .invokestatic 136, 3), (489, .istore 5, 2), (491, .aload_n 2, 1), (492, .aload_n 0, 1), (493, .iload 4, 2), (495, .iconst 1, 1)] := fac_all 470 _ (by decide +kernel)
def dL_law_470 := bL_law_470.1
def dL_law_473 := bL_law_470.2.1
def dL_law_475 := bL_law_470.2.2.1
def dL_law_478 := bL_law_470.2.2.2.1
def dL_law_479 := bL_law_470.2.2.2.2.1
def dL_law_480 := bL_law_470.2.2.2.2.2.1
def dL_law_482 := bL_law_470.2.2.2.2.2.2.1
def dL_law_483 := bL_law_470.2.2.2.2.2.2.2.1
def dL_law_484 := bL_law_470.2.2.2.2.2.2.2.2.1
def dL_law_485 := bL_law_470.2.2.2.2.2.2.2.2.2.1
def dL_law_486 := bL_law_470.2.2.2.2.2.2.2.2.2.2.1
def dL_law_489 := bL_law_470.2.2.2.2.2.2.2.2.2.2.2.1
def dL_law_491 := bL_law_470.2.2.2.2.2.2.2.2.2.2.2.2.1
def dL_law_492 := bL_law_470.2.2.2.2.2.2.2.2.2.2.2.2.2.1
def dL_law_493 := bL_law_470.2.2.2.2.2.2.2.2.2.2.2.2.2.2.1
def dL_law_495 := bL_law_470.2.2.2.2.2.2.2.2.2.2.2.2.2.2.2.1
theorem bL_law_496 : fac cL_law [(496, .iadd, 1), (497, .iaload, 1), (498, .invokevirtual 138, 3), (501, .istore 6, 2), (503, .goto 838, 3), (506, .aload_n 1, 1), (507, .aload_n 0, 1), (508, .iload 4, 2), (510, .iconst 1, 1), (511, .iadd, 1), (512, .iaload, 1), (513, .aload_n 3, 1), (514, .invokestatic 139, 3), (517, .istore 5, 2), (519, .aload_n 2, 1), (520, .aload_n 0, 1)] := fac_all 496 _ (by decide +kernel)
def dL_law_496 := bL_law_496.1
def dL_law_497 := bL_law_496.2.1
def dL_law_498 := bL_law_496.2.2.1
def dL_law_501 := bL_law_496.2.2.2.1
def dL_law_503 := bL_law_496.2.2.2.2.1
def dL_law_506 := bL_law_496.2.2.2.2.2.1
def dL_law_507 := bL_law_496.2.2.2.2.2.2.1
def dL_law_508 := bL_law_496.2.2.2.2.2.2.2.1
def dL_law_510 := bL_law_496.2.2.2.2.2.2.2.2.1
def dL_law_511 := bL_law_496.2.2.2.2.2.2.2.2.2.1
def dL_law_512 := bL_law_496.2.2.2.2.2.2.2.2.2.2.1
def dL_law_513 := bL_law_496.2.2.2.2.2.2.2.2.2.2.2.1
def dL_law_514 := bL_law_496.2.2.2.2.2.2.2.2.2.2.2.2.1
def dL_law_517 := bL_law_496.2.2.2.2.2.2.2.2.2.2.2.2.2.1
def dL_law_519 := bL_law_496.2.2.2.2.2.2.2.2.2.2.2.2.2.2.1
def dL_law_520 := bL_law_496.2.2.2.2.2.2.2.2.2.2.2.2.2.2.2.1
theorem bL_law_521 : fac cL_law [(521, .iload 4, 2), (523, .iconst 1, 1), (524, .iadd, 1), (525, .iaload, 1), (526, .invokevirtual 141, 3), (529, .istore 6, 2), (531, .goto 810, 3), (534, .aload_n 1, 1), (535, .aload_n 0, 1), (536, .iload 4, 2), (538, .iconst 1, 1), (539, .iadd, 1), (540, .iaload, 1), (541, .aload_n 3, 1), (542, .invokestatic 142, 3), (545, .istore 5, 2)] := fac_all 521 _ (by decide +kernel)
def dL_law_521 := bL_law_521.1
def dL_law_523 := bL_law_521.2.1
def dL_law_524 := bL_law_521.2.2.1
def dL_law_525 := bL_law_521.2.2.2.1
def dL_law_526 := bL_law_521.2.2.2.2.1
def dL_law_529 := bL_law_521.2.2.2.2.2.1
def dL_law_531 := bL_law_521.2.2.2.2.2.2.1
def dL_law_534 := bL_law_521.2.2.2.2.2.2.2.1
def dL_law_535 := bL_law_521.2.2.2.2.2.2.2.2.1
def dL_law_536 := bL_law_521.2.2.2.2.2.2.2.2.2.1
def dL_law_538 := bL_law_521.2.2.2.2.2.2.2.2.2.2.1
def dL_law_539 := bL_law_521.2.2.2.2.2.2.2.2.2.2.2.1
def dL_law_540 := bL_law_521.2.2.2.2.2.2.2.2.2.2.2.2.1
def dL_law_541 := bL_law_521.2.2.2.2.2.2.2.2.2.2.2.2.2.1
def dL_law_542 := bL_law_521.2.2.2.2.2.2.2.2.2.2.2.2.2.2.1
def dL_law_545 := bL_law_521.2.2.2.2.2.2.2.2.2.2.2.2.2.2.2.1
theorem bL_law_547 : fac cL_law [(547, .aload_n 2, 1), (548, .aload_n 0, 1), (549, .iload 4, 2), (551, .iconst 1, 1), (552, .iadd, 1), (553, .iaload, 1), (554, .invokevirtual 144, 3), (557, .istore 6, 2), (559, .goto 782, 3), (562, .aload_n 1, 1), (563, .aload_n 0, 1), (564, .iload 4, 2), (566, .iconst 1, 1), (567, .iadd, 1), (568, .iaload, 1), (569, .aload_n 3, 1)] := fac_all 547 _ (by decide +kernel)
def dL_law_547 := bL_law_547.1
def dL_law_548 := bL_law_547.2.1
def dL_law_549 := bL_law_547.2.2.1
def dL_law_551 := bL_law_547.2.2.2.1
def dL_law_552 := bL_law_547.2.2.2.2.1
def dL_law_553 := bL_law_547.2.2.2.2.2.1
def dL_law_554 := bL_law_547.2.2.2.2.2.2.1
def dL_law_557 := bL_law_547.2.2.2.2.2.2.2.1
def dL_law_559 := bL_law_547.2.2.2.2.2.2.2.2.1
def dL_law_562 := bL_law_547.2.2.2.2.2.2.2.2.2.1
def dL_law_563 := bL_law_547.2.2.2.2.2.2.2.2.2.2.1
def dL_law_564 := bL_law_547.2.2.2.2.2.2.2.2.2.2.2.1
def dL_law_566 := bL_law_547.2.2.2.2.2.2.2.2.2.2.2.2.1
def dL_law_567 := bL_law_547.2.2.2.2.2.2.2.2.2.2.2.2.2.1
def dL_law_568 := bL_law_547.2.2.2.2.2.2.2.2.2.2.2.2.2.2.1
def dL_law_569 := bL_law_547.2.2.2.2.2.2.2.2.2.2.2.2.2.2.2.1
theorem bL_law_570 : fac cL_law [(570, .invokestatic 145, 3), (573, .istore 5, 2), (575, .aload_n 2, 1), (576, .aload_n 0, 1), (577, .iload 4, 2), (579, .iconst 1, 1), (580, .iadd, 1), (581, .iaload, 1), (582, .invokevirtual 147, 3), (585, .istore 6, 2), (587, .goto 754, 3), (590, .aload_n 1, 1), (591, .aload_n 0, 1), (592, .iload 4, 2), (594, .iconst 1, 1), (595, .iadd, 1)] := fac_all 570 _ (by decide +kernel)
def dL_law_570 := bL_law_570.1
def dL_law_573 := bL_law_570.2.1
def dL_law_575 := bL_law_570.2.2.1
def dL_law_576 := bL_law_570.2.2.2.1
def dL_law_577 := bL_law_570.2.2.2.2.1
def dL_law_579 := bL_law_570.2.2.2.2.2.1
def dL_law_580 := bL_law_570.2.2.2.2.2.2.1
def dL_law_581 := bL_law_570.2.2.2.2.2.2.2.1
def dL_law_582 := bL_law_570.2.2.2.2.2.2.2.2.1
def dL_law_585 := bL_law_570.2.2.2.2.2.2.2.2.2.1
def dL_law_587 := bL_law_570.2.2.2.2.2.2.2.2.2.2.1
def dL_law_590 := bL_law_570.2.2.2.2.2.2.2.2.2.2.2.1
def dL_law_591 := bL_law_570.2.2.2.2.2.2.2.2.2.2.2.2.1
def dL_law_592 := bL_law_570.2.2.2.2.2.2.2.2.2.2.2.2.2.1
def dL_law_594 := bL_law_570.2.2.2.2.2.2.2.2.2.2.2.2.2.2.1
def dL_law_595 := bL_law_570.2.2.2.2.2.2.2.2.2.2.2.2.2.2.2.1
theorem bL_law_596 : fac cL_law [(596, .iaload, 1), (597, .aload_n 0, 1), (598, .iload 4, 2), (600, .iconst 2, 1), (601, .iadd, 1), (602, .iaload, 1), (603, .aload_n 3, 1), (604, .invokestatic 148, 3), (607, .istore 5, 2), (609, .aload_n 2, 1), (610, .aload_n 0, 1), (611, .iload 4, 2), (613, .iconst 1, 1), (614, .iadd, 1), (615, .iaload, 1), (616, .aload_n 0, 1)] := fac_all 596 _ (by decide +kernel)
def dL_law_596 := bL_law_596.1
def dL_law_597 := bL_law_596.2.1
def dL_law_598 := bL_law_596.2.2.1
def dL_law_600 := bL_law_596.2.2.2.1
def dL_law_601 := bL_law_596.2.2.2.2.1
def dL_law_602 := bL_law_596.2.2.2.2.2.1
def dL_law_603 := bL_law_596.2.2.2.2.2.2.1
def dL_law_604 := bL_law_596.2.2.2.2.2.2.2.1
def dL_law_607 := bL_law_596.2.2.2.2.2.2.2.2.1
def dL_law_609 := bL_law_596.2.2.2.2.2.2.2.2.2.1
def dL_law_610 := bL_law_596.2.2.2.2.2.2.2.2.2.2.1
def dL_law_611 := bL_law_596.2.2.2.2.2.2.2.2.2.2.2.1
def dL_law_613 := bL_law_596.2.2.2.2.2.2.2.2.2.2.2.2.1
def dL_law_614 := bL_law_596.2.2.2.2.2.2.2.2.2.2.2.2.2.1
def dL_law_615 := bL_law_596.2.2.2.2.2.2.2.2.2.2.2.2.2.2.1
def dL_law_616 := bL_law_596.2.2.2.2.2.2.2.2.2.2.2.2.2.2.2.1
theorem bL_law_617 : fac cL_law [(617, .iload 4, 2), (619, .iconst 2, 1), (620, .iadd, 1), (621, .iaload, 1), (622, .invokevirtual 150, 3), (625, .istore 6, 2), (627, .goto 714, 3), (630, .aload_n 1, 1), (631, .aload_n 0, 1), (632, .iload 4, 2), (634, .iconst 1, 1), (635, .iadd, 1), (636, .iaload, 1), (637, .aload_n 0, 1), (638, .iload 4, 2), (640, .iconst 2, 1)] := fac_all 617 _ (by decide +kernel)
def dL_law_617 := bL_law_617.1
def dL_law_619 := bL_law_617.2.1
def dL_law_620 := bL_law_617.2.2.1
def dL_law_621 := bL_law_617.2.2.2.1
def dL_law_622 := bL_law_617.2.2.2.2.1
def dL_law_625 := bL_law_617.2.2.2.2.2.1
def dL_law_627 := bL_law_617.2.2.2.2.2.2.1
def dL_law_630 := bL_law_617.2.2.2.2.2.2.2.1
def dL_law_631 := bL_law_617.2.2.2.2.2.2.2.2.1
def dL_law_632 := bL_law_617.2.2.2.2.2.2.2.2.2.1
def dL_law_634 := bL_law_617.2.2.2.2.2.2.2.2.2.2.1
def dL_law_635 := bL_law_617.2.2.2.2.2.2.2.2.2.2.2.1
def dL_law_636 := bL_law_617.2.2.2.2.2.2.2.2.2.2.2.2.1
def dL_law_637 := bL_law_617.2.2.2.2.2.2.2.2.2.2.2.2.2.1
def dL_law_638 := bL_law_617.2.2.2.2.2.2.2.2.2.2.2.2.2.2.1
def dL_law_640 := bL_law_617.2.2.2.2.2.2.2.2.2.2.2.2.2.2.2.1
theorem bL_law_641 : fac cL_law [(641, .iadd, 1), (642, .iaload, 1), (643, .aload_n 0, 1), (644, .iload 4, 2), (646, .iconst 3, 1), (647, .iadd, 1), (648, .iaload, 1), (649, .aload_n 3, 1), (650, .invokestatic 151, 3), (653, .istore 5, 2), (655, .aload_n 2, 1), (656, .aload_n 0, 1), (657, .iload 4, 2), (659, .iconst 1, 1), (660, .iadd, 1), (661, .iaload, 1)] := fac_all 641 _ (by decide +kernel)
def dL_law_641 := bL_law_641.1
def dL_law_642 := bL_law_641.2.1
def dL_law_643 := bL_law_641.2.2.1
def dL_law_644 := bL_law_641.2.2.2.1
def dL_law_646 := bL_law_641.2.2.2.2.1
def dL_law_647 := bL_law_641.2.2.2.2.2.1
def dL_law_648 := bL_law_641.2.2.2.2.2.2.1
def dL_law_649 := bL_law_641.2.2.2.2.2.2.2.1
def dL_law_650 := bL_law_641.2.2.2.2.2.2.2.2.1
def dL_law_653 := bL_law_641.2.2.2.2.2.2.2.2.2.1
def dL_law_655 := bL_law_641.2.2.2.2.2.2.2.2.2.2.1
def dL_law_656 := bL_law_641.2.2.2.2.2.2.2.2.2.2.2.1
def dL_law_657 := bL_law_641.2.2.2.2.2.2.2.2.2.2.2.2.1
def dL_law_659 := bL_law_641.2.2.2.2.2.2.2.2.2.2.2.2.2.1
def dL_law_660 := bL_law_641.2.2.2.2.2.2.2.2.2.2.2.2.2.2.1
def dL_law_661 := bL_law_641.2.2.2.2.2.2.2.2.2.2.2.2.2.2.2.1
theorem bL_law_662 : fac cL_law [(662, .aload_n 0, 1), (663, .iload 4, 2), (665, .iconst 2, 1), (666, .iadd, 1), (667, .iaload, 1), (668, .aload_n 0, 1), (669, .iload 4, 2), (671, .iconst 3, 1), (672, .iadd, 1), (673, .iaload, 1), (674, .invokevirtual 154, 3), (677, .istore 6, 2), (679, .goto 662, 3), (682, .aload_n 1, 1), (683, .aload_n 0, 1), (684, .iload 4, 2)] := fac_all 662 _ (by decide +kernel)
def dL_law_662 := bL_law_662.1
def dL_law_663 := bL_law_662.2.1
def dL_law_665 := bL_law_662.2.2.1
def dL_law_666 := bL_law_662.2.2.2.1
def dL_law_667 := bL_law_662.2.2.2.2.1
def dL_law_668 := bL_law_662.2.2.2.2.2.1
def dL_law_669 := bL_law_662.2.2.2.2.2.2.1
def dL_law_671 := bL_law_662.2.2.2.2.2.2.2.1
def dL_law_672 := bL_law_662.2.2.2.2.2.2.2.2.1
def dL_law_673 := bL_law_662.2.2.2.2.2.2.2.2.2.1
def dL_law_674 := bL_law_662.2.2.2.2.2.2.2.2.2.2.1
def dL_law_677 := bL_law_662.2.2.2.2.2.2.2.2.2.2.2.1
def dL_law_679 := bL_law_662.2.2.2.2.2.2.2.2.2.2.2.2.1
def dL_law_682 := bL_law_662.2.2.2.2.2.2.2.2.2.2.2.2.2.1
def dL_law_683 := bL_law_662.2.2.2.2.2.2.2.2.2.2.2.2.2.2.1
def dL_law_684 := bL_law_662.2.2.2.2.2.2.2.2.2.2.2.2.2.2.2.1
theorem bL_law_686 : fac cL_law [(686, .iconst 1, 1), (687, .iadd, 1), (688, .iaload, 1), (689, .aload_n 0, 1), (690, .iload 4, 2), (692, .iconst 2, 1), (693, .iadd, 1), (694, .iaload, 1), (695, .aload_n 3, 1), (696, .invokestatic 155, 3), (699, .istore 5, 2), (701, .aload_n 2, 1), (702, .aload_n 0, 1), (703, .iload 4, 2), (705, .iconst 1, 1), (706, .iadd, 1)] := fac_all 686 _ (by decide +kernel)
def dL_law_686 := bL_law_686.1
def dL_law_687 := bL_law_686.2.1
def dL_law_688 := bL_law_686.2.2.1
def dL_law_689 := bL_law_686.2.2.2.1
def dL_law_690 := bL_law_686.2.2.2.2.1
def dL_law_692 := bL_law_686.2.2.2.2.2.1
def dL_law_693 := bL_law_686.2.2.2.2.2.2.1
def dL_law_694 := bL_law_686.2.2.2.2.2.2.2.1
def dL_law_695 := bL_law_686.2.2.2.2.2.2.2.2.1
def dL_law_696 := bL_law_686.2.2.2.2.2.2.2.2.2.1
def dL_law_699 := bL_law_686.2.2.2.2.2.2.2.2.2.2.1
def dL_law_701 := bL_law_686.2.2.2.2.2.2.2.2.2.2.2.1
def dL_law_702 := bL_law_686.2.2.2.2.2.2.2.2.2.2.2.2.1
def dL_law_703 := bL_law_686.2.2.2.2.2.2.2.2.2.2.2.2.2.1
def dL_law_705 := bL_law_686.2.2.2.2.2.2.2.2.2.2.2.2.2.2.1
def dL_law_706 := bL_law_686.2.2.2.2.2.2.2.2.2.2.2.2.2.2.2.1
theorem bL_law_707 : fac cL_law [(707, .iaload, 1), (708, .aload_n 0, 1), (709, .iload 4, 2), (711, .iconst 2, 1), (712, .iadd, 1), (713, .iaload, 1), (714, .invokevirtual 157, 3), (717, .istore 6, 2), (719, .goto 622, 3), (722, .aload_n 1, 1), (723, .aload_n 0, 1), (724, .iload 4, 2), (726, .iconst 1, 1), (727, .iadd, 1), (728, .iaload, 1), (729, .aload_n 0, 1)] := fac_all 707 _ (by decide +kernel)
def dL_law_707 := bL_law_707.1
def dL_law_708 := bL_law_707.2.1
def dL_law_709 := bL_law_707.2.2.1
def dL_law_711 := bL_law_707.2.2.2.1
def dL_law_712 := bL_law_707.2.2.2.2.1
def dL_law_713 := bL_law_707.2.2.2.2.2.1
def dL_law_714 := bL_law_707.2.2.2.2.2.2.1
def dL_law_717 := bL_law_707.2.2.2.2.2.2.2.1
def dL_law_719 := bL_law_707.2.2.2.2.2.2.2.2.1
def dL_law_722 := bL_law_707.2.2.2.2.2.2.2.2.2.1
def dL_law_723 := bL_law_707.2.2.2.2.2.2.2.2.2.2.1
def dL_law_724 := bL_law_707.2.2.2.2.2.2.2.2.2.2.2.1
def dL_law_726 := bL_law_707.2.2.2.2.2.2.2.2.2.2.2.2.1
def dL_law_727 := bL_law_707.2.2.2.2.2.2.2.2.2.2.2.2.2.1
def dL_law_728 := bL_law_707.2.2.2.2.2.2.2.2.2.2.2.2.2.2.1
def dL_law_729 := bL_law_707.2.2.2.2.2.2.2.2.2.2.2.2.2.2.2.1
theorem bL_law_730 : fac cL_law [(730, .iload 4, 2), (732, .iconst 2, 1), (733, .iadd, 1), (734, .iaload, 1), (735, .aload_n 3, 1), (736, .invokestatic 158, 3), (739, .istore 5, 2), (741, .aload_n 2, 1), (742, .aload_n 0, 1), (743, .iload 4, 2), (745, .iconst 1, 1), (746, .iadd, 1), (747, .iaload, 1), (748, .aload_n 0, 1), (749, .iload 4, 2), (751, .iconst 2, 1)] := fac_all 730 _ (by decide +kernel)
def dL_law_730 := bL_law_730.1
def dL_law_732 := bL_law_730.2.1
def dL_law_733 := bL_law_730.2.2.1
def dL_law_734 := bL_law_730.2.2.2.1
def dL_law_735 := bL_law_730.2.2.2.2.1
def dL_law_736 := bL_law_730.2.2.2.2.2.1
def dL_law_739 := bL_law_730.2.2.2.2.2.2.1
def dL_law_741 := bL_law_730.2.2.2.2.2.2.2.1
def dL_law_742 := bL_law_730.2.2.2.2.2.2.2.2.1
def dL_law_743 := bL_law_730.2.2.2.2.2.2.2.2.2.1
def dL_law_745 := bL_law_730.2.2.2.2.2.2.2.2.2.2.1
def dL_law_746 := bL_law_730.2.2.2.2.2.2.2.2.2.2.2.1
def dL_law_747 := bL_law_730.2.2.2.2.2.2.2.2.2.2.2.2.1
def dL_law_748 := bL_law_730.2.2.2.2.2.2.2.2.2.2.2.2.2.1
def dL_law_749 := bL_law_730.2.2.2.2.2.2.2.2.2.2.2.2.2.2.1
def dL_law_751 := bL_law_730.2.2.2.2.2.2.2.2.2.2.2.2.2.2.2.1
theorem bL_law_752 : fac cL_law [(752, .iadd, 1), (753, .iaload, 1), (754, .invokevirtual 160, 3), (757, .istore 6, 2), (759, .goto 582, 3), (762, .aload_n 1, 1), (763, .aload_n 0, 1), (764, .iload 4, 2), (766, .iconst 1, 1), (767, .iadd, 1), (768, .iaload, 1), (769, .aload_n 0, 1), (770, .iload 4, 2), (772, .iconst 2, 1), (773, .iadd, 1), (774, .iaload, 1)] := fac_all 752 _ (by decide +kernel)
def dL_law_752 := bL_law_752.1
def dL_law_753 := bL_law_752.2.1
def dL_law_754 := bL_law_752.2.2.1
def dL_law_757 := bL_law_752.2.2.2.1
def dL_law_759 := bL_law_752.2.2.2.2.1
def dL_law_762 := bL_law_752.2.2.2.2.2.1
def dL_law_763 := bL_law_752.2.2.2.2.2.2.1
def dL_law_764 := bL_law_752.2.2.2.2.2.2.2.1
def dL_law_766 := bL_law_752.2.2.2.2.2.2.2.2.1
def dL_law_767 := bL_law_752.2.2.2.2.2.2.2.2.2.1
def dL_law_768 := bL_law_752.2.2.2.2.2.2.2.2.2.2.1
def dL_law_769 := bL_law_752.2.2.2.2.2.2.2.2.2.2.2.1
def dL_law_770 := bL_law_752.2.2.2.2.2.2.2.2.2.2.2.2.1
def dL_law_772 := bL_law_752.2.2.2.2.2.2.2.2.2.2.2.2.2.1
def dL_law_773 := bL_law_752.2.2.2.2.2.2.2.2.2.2.2.2.2.2.1
def dL_law_774 := bL_law_752.2.2.2.2.2.2.2.2.2.2.2.2.2.2.2.1
theorem bL_law_775 : fac cL_law [(775, .aload_n 3, 1), (776, .invokestatic 161, 3), (779, .istore 5, 2), (781, .aload_n 2, 1), (782, .aload_n 0, 1), (783, .iload 4, 2), (785, .iconst 1, 1), (786, .iadd, 1), (787, .iaload, 1), (788, .aload_n 0, 1), (789, .iload 4, 2), (791, .iconst 2, 1), (792, .iadd, 1), (793, .iaload, 1), (794, .invokevirtual 163, 3), (797, .istore 6, 2)] := fac_all 775 _ (by decide +kernel)
def dL_law_775 := bL_law_775.1
def dL_law_776 := bL_law_775.2.1
def dL_law_779 := bL_law_775.2.2.1
def dL_law_781 := bL_law_775.2.2.2.1
def dL_law_782 := bL_law_775.2.2.2.2.1
def dL_law_783 := bL_law_775.2.2.2.2.2.1
def dL_law_785 := bL_law_775.2.2.2.2.2.2.1
def dL_law_786 := bL_law_775.2.2.2.2.2.2.2.1
def dL_law_787 := bL_law_775.2.2.2.2.2.2.2.2.1
def dL_law_788 := bL_law_775.2.2.2.2.2.2.2.2.2.1
def dL_law_789 := bL_law_775.2.2.2.2.2.2.2.2.2.2.1
def dL_law_791 := bL_law_775.2.2.2.2.2.2.2.2.2.2.2.1
def dL_law_792 := bL_law_775.2.2.2.2.2.2.2.2.2.2.2.2.1
def dL_law_793 := bL_law_775.2.2.2.2.2.2.2.2.2.2.2.2.2.1
def dL_law_794 := bL_law_775.2.2.2.2.2.2.2.2.2.2.2.2.2.2.1
def dL_law_797 := bL_law_775.2.2.2.2.2.2.2.2.2.2.2.2.2.2.2.1
theorem bL_law_799 : fac cL_law [(799, .goto 542, 3), (802, .aload_n 1, 1), (803, .aload_n 0, 1), (804, .iload 4, 2), (806, .iconst 1, 1), (807, .iadd, 1), (808, .iaload, 1), (809, .aload_n 0, 1), (810, .iload 4, 2), (812, .iconst 2, 1), (813, .iadd, 1), (814, .iaload, 1), (815, .aload_n 3, 1), (816, .invokestatic 164, 3), (819, .istore 5, 2), (821, .aload_n 2, 1)] := fac_all 799 _ (by decide +kernel)
def dL_law_799 := bL_law_799.1
def dL_law_802 := bL_law_799.2.1
def dL_law_803 := bL_law_799.2.2.1
def dL_law_804 := bL_law_799.2.2.2.1
def dL_law_806 := bL_law_799.2.2.2.2.1
def dL_law_807 := bL_law_799.2.2.2.2.2.1
def dL_law_808 := bL_law_799.2.2.2.2.2.2.1
def dL_law_809 := bL_law_799.2.2.2.2.2.2.2.1
def dL_law_810 := bL_law_799.2.2.2.2.2.2.2.2.1
def dL_law_812 := bL_law_799.2.2.2.2.2.2.2.2.2.1
def dL_law_813 := bL_law_799.2.2.2.2.2.2.2.2.2.2.1
def dL_law_814 := bL_law_799.2.2.2.2.2.2.2.2.2.2.2.1
def dL_law_815 := bL_law_799.2.2.2.2.2.2.2.2.2.2.2.2.1
def dL_law_816 := bL_law_799.2.2.2.2.2.2.2.2.2.2.2.2.2.1
def dL_law_819 := bL_law_799.2.2.2.2.2.2.2.2.2.2.2.2.2.2.1
def dL_law_821 := bL_law_799.2.2.2.2.2.2.2.2.2.2.2.2.2.2.2.1
theorem bL_law_822 : fac cL_law [(822, .aload_n 0, 1), (823, .iload 4, 2), (825, .iconst 1, 1), (826, .iadd, 1), (827, .iaload, 1), (828, .aload_n 0, 1), (829, .iload 4, 2), (831, .iconst 2, 1), (832, .iadd, 1), (833, .iaload, 1), (834, .invokevirtual 166, 3), (837, .istore 6, 2), (839, .goto 502, 3), (842, .aload_n 1, 1), (843, .aload_n 0, 1), (844, .iload 4, 2)] := fac_all 822 _ (by decide +kernel)
def dL_law_822 := bL_law_822.1
def dL_law_823 := bL_law_822.2.1
def dL_law_825 := bL_law_822.2.2.1
def dL_law_826 := bL_law_822.2.2.2.1
def dL_law_827 := bL_law_822.2.2.2.2.1
def dL_law_828 := bL_law_822.2.2.2.2.2.1
def dL_law_829 := bL_law_822.2.2.2.2.2.2.1
def dL_law_831 := bL_law_822.2.2.2.2.2.2.2.1
def dL_law_832 := bL_law_822.2.2.2.2.2.2.2.2.1
def dL_law_833 := bL_law_822.2.2.2.2.2.2.2.2.2.1
def dL_law_834 := bL_law_822.2.2.2.2.2.2.2.2.2.2.1
def dL_law_837 := bL_law_822.2.2.2.2.2.2.2.2.2.2.2.1
def dL_law_839 := bL_law_822.2.2.2.2.2.2.2.2.2.2.2.2.1
def dL_law_842 := bL_law_822.2.2.2.2.2.2.2.2.2.2.2.2.2.1
def dL_law_843 := bL_law_822.2.2.2.2.2.2.2.2.2.2.2.2.2.2.1
def dL_law_844 := bL_law_822.2.2.2.2.2.2.2.2.2.2.2.2.2.2.2.1
theorem bL_law_846 : fac cL_law [(846, .iconst 1, 1), (847, .iadd, 1), (848, .iaload, 1), (849, .aload_n 0, 1), (850, .iload 4, 2), (852, .iconst 2, 1), (853, .iadd, 1), (854, .iaload, 1), (855, .invokestatic 167, 3), (858, .istore 5, 2), (860, .aload_n 2, 1), (861, .aload_n 0, 1), (862, .iload 4, 2), (864, .iconst 1, 1), (865, .iadd, 1), (866, .iaload, 1)] := fac_all 846 _ (by decide +kernel)
def dL_law_846 := bL_law_846.1
def dL_law_847 := bL_law_846.2.1
def dL_law_848 := bL_law_846.2.2.1
def dL_law_849 := bL_law_846.2.2.2.1
def dL_law_850 := bL_law_846.2.2.2.2.1
def dL_law_852 := bL_law_846.2.2.2.2.2.1
def dL_law_853 := bL_law_846.2.2.2.2.2.2.1
def dL_law_854 := bL_law_846.2.2.2.2.2.2.2.1
def dL_law_855 := bL_law_846.2.2.2.2.2.2.2.2.1
def dL_law_858 := bL_law_846.2.2.2.2.2.2.2.2.2.1
def dL_law_860 := bL_law_846.2.2.2.2.2.2.2.2.2.2.1
def dL_law_861 := bL_law_846.2.2.2.2.2.2.2.2.2.2.2.1
def dL_law_862 := bL_law_846.2.2.2.2.2.2.2.2.2.2.2.2.1
def dL_law_864 := bL_law_846.2.2.2.2.2.2.2.2.2.2.2.2.2.1
def dL_law_865 := bL_law_846.2.2.2.2.2.2.2.2.2.2.2.2.2.2.1
def dL_law_866 := bL_law_846.2.2.2.2.2.2.2.2.2.2.2.2.2.2.2.1
theorem bL_law_867 : fac cL_law [(867, .aload_n 0, 1), (868, .iload 4, 2), (870, .iconst 2, 1), (871, .iadd, 1), (872, .iaload, 1), (873, .invokevirtual 170, 3), (876, .goto 465, 3), (879, .aload_n 1, 1), (880, .aload_n 0, 1), (881, .iload 4, 2), (883, .iconst 1, 1), (884, .iadd, 1), (885, .iaload, 1), (886, .aload_n 0, 1), (887, .iload 4, 2), (889, .iconst 2, 1)] := fac_all 867 _ (by decide +kernel)
def dL_law_867 := bL_law_867.1
def dL_law_868 := bL_law_867.2.1
def dL_law_870 := bL_law_867.2.2.1
def dL_law_871 := bL_law_867.2.2.2.1
def dL_law_872 := bL_law_867.2.2.2.2.1
def dL_law_873 := bL_law_867.2.2.2.2.2.1
def dL_law_876 := bL_law_867.2.2.2.2.2.2.1
def dL_law_879 := bL_law_867.2.2.2.2.2.2.2.1
def dL_law_880 := bL_law_867.2.2.2.2.2.2.2.2.1
def dL_law_881 := bL_law_867.2.2.2.2.2.2.2.2.2.1
end
section
def dL_law_883 := bL_law_867.2.2.2.2.2.2.2.2.2.2.1
def dL_law_884 := bL_law_867.2.2.2.2.2.2.2.2.2.2.2.1
def dL_law_885 := bL_law_867.2.2.2.2.2.2.2.2.2.2.2.2.1
def dL_law_886 := bL_law_867.2.2.2.2.2.2.2.2.2.2.2.2.2.1
def dL_law_887 := bL_law_867.2.2.2.2.2.2.2.2.2.2.2.2.2.2.1
def dL_law_889 := bL_law_867.2.2.2.2.2.2.2.2.2.2.2.2.2.2.2.1
theorem bL_law_890 : fac cL_law [(890, .iadd, 1), (891, .iaload, 1), (892, .aload_n 0, 1), (893, .iload 4, 2), (895, .iconst 3, 1), (896, .iadd, 1), (897, .iaload, 1), (898, .invokestatic 171, 3), (901, .istore 5, 2), (903, .aload_n 2, 1), (904, .aload_n 0, 1), (905, .iload 4, 2), (907, .iconst 1, 1), (908, .iadd, 1), (909, .iaload, 1), (910, .aload_n 0, 1)] := fac_all 890 _ (by decide +kernel)
def dL_law_890 := bL_law_890.1
def dL_law_891 := bL_law_890.2.1
def dL_law_892 := bL_law_890.2.2.1
def dL_law_893 := bL_law_890.2.2.2.1
def dL_law_895 := bL_law_890.2.2.2.2.1
def dL_law_896 := bL_law_890.2.2.2.2.2.1
def dL_law_897 := bL_law_890.2.2.2.2.2.2.1
def dL_law_898 := bL_law_890.2.2.2.2.2.2.2.1
def dL_law_901 := bL_law_890.2.2.2.2.2.2.2.2.1
def dL_law_903 := bL_law_890.2.2.2.2.2.2.2.2.2.1
def dL_law_904 := bL_law_890.2.2.2.2.2.2.2.2.2.2.1
def dL_law_905 := bL_law_890.2.2.2.2.2.2.2.2.2.2.2.1
def dL_law_907 := bL_law_890.2.2.2.2.2.2.2.2.2.2.2.2.1
def dL_law_908 := bL_law_890.2.2.2.2.2.2.2.2.2.2.2.2.2.1
def dL_law_909 := bL_law_890.2.2.2.2.2.2.2.2.2.2.2.2.2.2.1
def dL_law_910 := bL_law_890.2.2.2.2.2.2.2.2.2.2.2.2.2.2.2.1
theorem bL_law_911 : fac cL_law [(911, .iload 4, 2), (913, .iconst 2, 1), (914, .iadd, 1), (915, .iaload, 1), (916, .aload_n 0, 1), (917, .iload 4, 2), (919, .iconst 3, 1), (920, .iadd, 1), (921, .iaload, 1), (922, .invokevirtual 174, 3), (925, .goto 416, 3), (928, .aload_n 1, 1), (929, .aload_n 0, 1), (930, .iload 4, 2), (932, .iconst 1, 1), (933, .iadd, 1)] := fac_all 911 _ (by decide +kernel)
def dL_law_911 := bL_law_911.1
def dL_law_913 := bL_law_911.2.1
def dL_law_914 := bL_law_911.2.2.1
def dL_law_915 := bL_law_911.2.2.2.1
def dL_law_916 := bL_law_911.2.2.2.2.1
def dL_law_917 := bL_law_911.2.2.2.2.2.1
def dL_law_919 := bL_law_911.2.2.2.2.2.2.1
def dL_law_920 := bL_law_911.2.2.2.2.2.2.2.1
def dL_law_921 := bL_law_911.2.2.2.2.2.2.2.2.1
def dL_law_922 := bL_law_911.2.2.2.2.2.2.2.2.2.1
def dL_law_925 := bL_law_911.2.2.2.2.2.2.2.2.2.2.1
def dL_law_928 := bL_law_911.2.2.2.2.2.2.2.2.2.2.2.1
def dL_law_929 := bL_law_911.2.2.2.2.2.2.2.2.2.2.2.2.1
def dL_law_930 := bL_law_911.2.2.2.2.2.2.2.2.2.2.2.2.2.1
def dL_law_932 := bL_law_911.2.2.2.2.2.2.2.2.2.2.2.2.2.2.1
def dL_law_933 := bL_law_911.2.2.2.2.2.2.2.2.2.2.2.2.2.2.2.1
theorem bL_law_934 : fac cL_law [(934, .iaload, 1), (935, .aload_n 3, 1), (936, .invokestatic 175, 3), (939, .istore 5, 2), (941, .aload_n 2, 1), (942, .aload_n 0, 1), (943, .iload 4, 2), (945, .iconst 1, 1), (946, .iadd, 1), (947, .iaload, 1), (948, .invokevirtual 177, 3), (951, .istore 6, 2), (953, .goto 388, 3), (956, .aload_n 1, 1), (957, .aload_n 0, 1), (958, .iload 4, 2)] := fac_all 934 _ (by decide +kernel)
def dL_law_934 := bL_law_934.1
def dL_law_935 := bL_law_934.2.1
def dL_law_936 := bL_law_934.2.2.1
def dL_law_939 := bL_law_934.2.2.2.1
def dL_law_941 := bL_law_934.2.2.2.2.1
def dL_law_942 := bL_law_934.2.2.2.2.2.1
def dL_law_943 := bL_law_934.2.2.2.2.2.2.1
def dL_law_945 := bL_law_934.2.2.2.2.2.2.2.1
def dL_law_946 := bL_law_934.2.2.2.2.2.2.2.2.1
def dL_law_947 := bL_law_934.2.2.2.2.2.2.2.2.2.1
def dL_law_948 := bL_law_934.2.2.2.2.2.2.2.2.2.2.1
def dL_law_951 := bL_law_934.2.2.2.2.2.2.2.2.2.2.2.1
def dL_law_953 := bL_law_934.2.2.2.2.2.2.2.2.2.2.2.2.1
def dL_law_956 := bL_law_934.2.2.2.2.2.2.2.2.2.2.2.2.2.1
def dL_law_957 := bL_law_934.2.2.2.2.2.2.2.2.2.2.2.2.2.2.1
def dL_law_958 := bL_law_934.2.2.2.2.2.2.2.2.2.2.2.2.2.2.2.1
theorem bL_law_960 : fac cL_law [(960, .iconst 1, 1), (961, .iadd, 1), (962, .iaload, 1), (963, .ifCond .eq 7, 3), (966, .iconst 1, 1), (967, .goto 4, 3), (970, .iconst 0, 1), (971, .aload_n 0, 1), (972, .iload 4, 2), (974, .iconst 2, 1), (975, .iadd, 1), (976, .iaload, 1), (977, .aload_n 3, 1), (978, .invokestatic 178, 3), (981, .istore 5, 2), (983, .aload_n 2, 1)] := fac_all 960 _ (by decide +kernel)
def dL_law_960 := bL_law_960.1
def dL_law_961 := bL_law_960.2.1
def dL_law_962 := bL_law_960.2.2.1
def dL_law_963 := bL_law_960.2.2.2.1
def dL_law_966 := bL_law_960.2.2.2.2.1
def dL_law_967 := bL_law_960.2.2.2.2.2.1
def dL_law_970 := bL_law_960.2.2.2.2.2.2.1
def dL_law_971 := bL_law_960.2.2.2.2.2.2.2.1
def dL_law_972 := bL_law_960.2.2.2.2.2.2.2.2.1
def dL_law_974 := bL_law_960.2.2.2.2.2.2.2.2.2.1
def dL_law_975 := bL_law_960.2.2.2.2.2.2.2.2.2.2.1
def dL_law_976 := bL_law_960.2.2.2.2.2.2.2.2.2.2.2.1
def dL_law_977 := bL_law_960.2.2.2.2.2.2.2.2.2.2.2.2.1
def dL_law_978 := bL_law_960.2.2.2.2.2.2.2.2.2.2.2.2.2.1
def dL_law_981 := bL_law_960.2.2.2.2.2.2.2.2.2.2.2.2.2.2.1
def dL_law_983 := bL_law_960.2.2.2.2.2.2.2.2.2.2.2.2.2.2.2.1
theorem bL_law_984 : fac cL_law [(984, .aload_n 0, 1), (985, .iload 4, 2), (987, .iconst 1, 1), (988, .iadd, 1), (989, .iaload, 1), (990, .ifCond .eq 7, 3), (993, .iconst 1, 1), (994, .goto 4, 3), (997, .iconst 0, 1), (998, .aload_n 0, 1), (999, .iload 4, 2), (1001, .iconst 2, 1), (1002, .iadd, 1), (1003, .iaload, 1), (1004, .invokevirtual 181, 3), (1007, .istore 6, 2)] := fac_all 984 _ (by decide +kernel)
def dL_law_984 := bL_law_984.1
def dL_law_985 := bL_law_984.2.1
def dL_law_987 := bL_law_984.2.2.1
def dL_law_988 := bL_law_984.2.2.2.1
def dL_law_989 := bL_law_984.2.2.2.2.1
def dL_law_990 := bL_law_984.2.2.2.2.2.1
def dL_law_993 := bL_law_984.2.2.2.2.2.2.1
def dL_law_994 := bL_law_984.2.2.2.2.2.2.2.1
def dL_law_997 := bL_law_984.2.2.2.2.2.2.2.2.1
def dL_law_998 := bL_law_984.2.2.2.2.2.2.2.2.2.1
def dL_law_999 := bL_law_984.2.2.2.2.2.2.2.2.2.2.1
def dL_law_1001 := bL_law_984.2.2.2.2.2.2.2.2.2.2.2.1
def dL_law_1002 := bL_law_984.2.2.2.2.2.2.2.2.2.2.2.2.1
def dL_law_1003 := bL_law_984.2.2.2.2.2.2.2.2.2.2.2.2.2.1
def dL_law_1004 := bL_law_984.2.2.2.2.2.2.2.2.2.2.2.2.2.2.1
def dL_law_1007 := bL_law_984.2.2.2.2.2.2.2.2.2.2.2.2.2.2.2.1
theorem bL_law_1009 : fac cL_law [(1009, .goto 332, 3), (1012, .aload_n 1, 1), (1013, .aload_n 0, 1), (1014, .iload 4, 2), (1016, .iconst 1, 1), (1017, .iadd, 1), (1018, .iaload, 1), (1019, .aload_n 3, 1), (1020, .invokestatic 182, 3), (1023, .istore 5, 2), (1025, .aload_n 2, 1), (1026, .aload_n 0, 1), (1027, .iload 4, 2), (1029, .iconst 1, 1), (1030, .iadd, 1), (1031, .iaload, 1)] := fac_all 1009 _ (by decide +kernel)
def dL_law_1009 := bL_law_1009.1
def dL_law_1012 := bL_law_1009.2.1
def dL_law_1013 := bL_law_1009.2.2.1
def dL_law_1014 := bL_law_1009.2.2.2.1
def dL_law_1016 := bL_law_1009.2.2.2.2.1
def dL_law_1017 := bL_law_1009.2.2.2.2.2.1
def dL_law_1018 := bL_law_1009.2.2.2.2.2.2.1
def dL_law_1019 := bL_law_1009.2.2.2.2.2.2.2.1
def dL_law_1020 := bL_law_1009.2.2.2.2.2.2.2.2.1
def dL_law_1023 := bL_law_1009.2.2.2.2.2.2.2.2.2.1
def dL_law_1025 := bL_law_1009.2.2.2.2.2.2.2.2.2.2.1
def dL_law_1026 := bL_law_1009.2.2.2.2.2.2.2.2.2.2.2.1
def dL_law_1027 := bL_law_1009.2.2.2.2.2.2.2.2.2.2.2.2.1
def dL_law_1029 := bL_law_1009.2.2.2.2.2.2.2.2.2.2.2.2.2.1
def dL_law_1030 := bL_law_1009.2.2.2.2.2.2.2.2.2.2.2.2.2.2.1
def dL_law_1031 := bL_law_1009.2.2.2.2.2.2.2.2.2.2.2.2.2.2.2.1
theorem bL_law_1032 : fac cL_law [(1032, .invokevirtual 184, 3), (1035, .lstore 6, 2), (1037, .goto 304, 3), (1040, .aload_n 1, 1), (1041, .aload_n 0, 1), (1042, .iload 4, 2), (1044, .iconst 1, 1), (1045, .iadd, 1), (1046, .iaload, 1), (1047, .aload_n 0, 1), (1048, .iload 4, 2), (1050, .iconst 2, 1), (1051, .iadd, 1), (1052, .iaload, 1), (1053, .aload_n 0, 1), (1054, .iload 4, 2)] := fac_all 1032 _ (by decide +kernel)
def dL_law_1032 := bL_law_1032.1
def dL_law_1035 := bL_law_1032.2.1
def dL_law_1037 := bL_law_1032.2.2.1
def dL_law_1040 := bL_law_1032.2.2.2.1
def dL_law_1041 := bL_law_1032.2.2.2.2.1
def dL_law_1042 := bL_law_1032.2.2.2.2.2.1
def dL_law_1044 := bL_law_1032.2.2.2.2.2.2.1
def dL_law_1045 := bL_law_1032.2.2.2.2.2.2.2.1
def dL_law_1046 := bL_law_1032.2.2.2.2.2.2.2.2.1
def dL_law_1047 := bL_law_1032.2.2.2.2.2.2.2.2.2.1
def dL_law_1048 := bL_law_1032.2.2.2.2.2.2.2.2.2.2.1
def dL_law_1050 := bL_law_1032.2.2.2.2.2.2.2.2.2.2.2.1
def dL_law_1051 := bL_law_1032.2.2.2.2.2.2.2.2.2.2.2.2.1
def dL_law_1052 := bL_law_1032.2.2.2.2.2.2.2.2.2.2.2.2.2.1
def dL_law_1053 := bL_law_1032.2.2.2.2.2.2.2.2.2.2.2.2.2.2.1
def dL_law_1054 := bL_law_1032.2.2.2.2.2.2.2.2.2.2.2.2.2.2.2.1
theorem bL_law_1056 : fac cL_law [(1056, .iconst 3, 1), (1057, .iadd, 1), (1058, .iaload, 1), (1059, .aload_n 3, 1), (1060, .invokestatic 185, 3), (1063, .istore 5, 2), (1065, .aload_n 2, 1), (1066, .aload_n 0, 1), (1067, .iload 4, 2), (1069, .iconst 1, 1), (1070, .iadd, 1), (1071, .iaload, 1), (1072, .aload_n 0, 1), (1073, .iload 4, 2), (1075, .iconst 2, 1), (1076, .iadd, 1)] := fac_all 1056 _ (by decide +kernel)
def dL_law_1056 := bL_law_1056.1
def dL_law_1057 := bL_law_1056.2.1
def dL_law_1058 := bL_law_1056.2.2.1
def dL_law_1059 := bL_law_1056.2.2.2.1
def dL_law_1060 := bL_law_1056.2.2.2.2.1
def dL_law_1063 := bL_law_1056.2.2.2.2.2.1
def dL_law_1065 := bL_law_1056.2.2.2.2.2.2.1
def dL_law_1066 := bL_law_1056.2.2.2.2.2.2.2.1
def dL_law_1067 := bL_law_1056.2.2.2.2.2.2.2.2.1
def dL_law_1069 := bL_law_1056.2.2.2.2.2.2.2.2.2.1
def dL_law_1070 := bL_law_1056.2.2.2.2.2.2.2.2.2.2.1
def dL_law_1071 := bL_law_1056.2.2.2.2.2.2.2.2.2.2.2.1
def dL_law_1072 := bL_law_1056.2.2.2.2.2.2.2.2.2.2.2.2.1
def dL_law_1073 := bL_law_1056.2.2.2.2.2.2.2.2.2.2.2.2.2.1
def dL_law_1075 := bL_law_1056.2.2.2.2.2.2.2.2.2.2.2.2.2.2.1
def dL_law_1076 := bL_law_1056.2.2.2.2.2.2.2.2.2.2.2.2.2.2.2.1
theorem bL_law_1077 : fac cL_law [(1077, .iaload, 1), (1078, .aload_n 0, 1), (1079, .iload 4, 2), (1081, .iconst 3, 1), (1082, .iadd, 1), (1083, .iaload, 1), (1084, .invokevirtual 187, 3), (1087, .istore 6, 2), (1089, .goto 252, 3), (1092, .aload_n 1, 1), (1093, .aload_n 0, 1), (1094, .iload 4, 2), (1096, .iconst 1, 1), (1097, .iadd, 1), (1098, .iaload, 1), (1099, .aload_n 0, 1)] := fac_all 1077 _ (by decide +kernel)
def dL_law_1077 := bL_law_1077.1
def dL_law_1078 := bL_law_1077.2.1
def dL_law_1079 := bL_law_1077.2.2.1
def dL_law_1081 := bL_law_1077.2.2.2.1
def dL_law_1082 := bL_law_1077.2.2.2.2.1
def dL_law_1083 := bL_law_1077.2.2.2.2.2.1
def dL_law_1084 := bL_law_1077.2.2.2.2.2.2.1
def dL_law_1087 := bL_law_1077.2.2.2.2.2.2.2.1
def dL_law_1089 := bL_law_1077.2.2.2.2.2.2.2.2.1
def dL_law_1092 := bL_law_1077.2.2.2.2.2.2.2.2.2.1
def dL_law_1093 := bL_law_1077.2.2.2.2.2.2.2.2.2.2.1
def dL_law_1094 := bL_law_1077.2.2.2.2.2.2.2.2.2.2.2.1
def dL_law_1096 := bL_law_1077.2.2.2.2.2.2.2.2.2.2.2.2.1
def dL_law_1097 := bL_law_1077.2.2.2.2.2.2.2.2.2.2.2.2.2.1
def dL_law_1098 := bL_law_1077.2.2.2.2.2.2.2.2.2.2.2.2.2.2.1
def dL_law_1099 := bL_law_1077.2.2.2.2.2.2.2.2.2.2.2.2.2.2.2.1
theorem bL_law_1100 : fac cL_law [(1100, .iload 4, 2), (1102, .iconst 2, 1), (1103, .iadd, 1), (1104, .iaload, 1), (1105, .aload_n 3, 1), (1106, .invokestatic 188, 3), (1109, .istore 5, 2), (1111, .aload_n 2, 1), (1112, .aload_n 0, 1), (1113, .iload 4, 2), (1115, .iconst 1, 1), (1116, .iadd, 1), (1117, .iaload, 1), (1118, .aload_n 0, 1), (1119, .iload 4, 2), (1121, .iconst 2, 1)] := fac_all 1100 _ (by decide +kernel)
def dL_law_1100 := bL_law_1100.1
def dL_law_1102 := bL_law_1100.2.1
def dL_law_1103 := bL_law_1100.2.2.1
def dL_law_1104 := bL_law_1100.2.2.2.1
def dL_law_1105 := bL_law_1100.2.2.2.2.1
def dL_law_1106 := bL_law_1100.2.2.2.2.2.1
def dL_law_1109 := bL_law_1100.2.2.2.2.2.2.1
def dL_law_1111 := bL_law_1100.2.2.2.2.2.2.2.1
def dL_law_1112 := bL_law_1100.2.2.2.2.2.2.2.2.1
def dL_law_1113 := bL_law_1100.2.2.2.2.2.2.2.2.2.1
def dL_law_1115 := bL_law_1100.2.2.2.2.2.2.2.2.2.2.1
def dL_law_1116 := bL_law_1100.2.2.2.2.2.2.2.2.2.2.2.1
def dL_law_1117 := bL_law_1100.2.2.2.2.2.2.2.2.2.2.2.2.1
def dL_law_1118 := bL_law_1100.2.2.2.2.2.2.2.2.2.2.2.2.2.1
def dL_law_1119 := bL_law_1100.2.2.2.2.2.2.2.2.2.2.2.2.2.2.1
def dL_law_1121 := bL_law_1100.2.2.2.2.2.2.2.2.2.2.2.2.2.2.2.1
theorem bL_law_1122 : fac cL_law [(1122, .iadd, 1), (1123, .iaload, 1), (1124, .invokevirtual 190, 3), (1127, .istore 6, 2), (1129, .goto 212, 3), (1132, .aload_n 1, 1), (1133, .aload_n 0, 1), (1134, .iload 4, 2), (1136, .iconst 1, 1), (1137, .iadd, 1), (1138, .iaload, 1), (1139, .aload_n 0, 1), (1140, .iload 4, 2), (1142, .iconst 2, 1), (1143, .iadd, 1), (1144, .iaload, 1)] := fac_all 1122 _ (by decide +kernel)
def dL_law_1122 := bL_law_1122.1
def dL_law_1123 := bL_law_1122.2.1
def dL_law_1124 := bL_law_1122.2.2.1
def dL_law_1127 := bL_law_1122.2.2.2.1
def dL_law_1129 := bL_law_1122.2.2.2.2.1
def dL_law_1132 := bL_law_1122.2.2.2.2.2.1
def dL_law_1133 := bL_law_1122.2.2.2.2.2.2.1
def dL_law_1134 := bL_law_1122.2.2.2.2.2.2.2.1
def dL_law_1136 := bL_law_1122.2.2.2.2.2.2.2.2.1
def dL_law_1137 := bL_law_1122.2.2.2.2.2.2.2.2.2.1
def dL_law_1138 := bL_law_1122.2.2.2.2.2.2.2.2.2.2.1
def dL_law_1139 := bL_law_1122.2.2.2.2.2.2.2.2.2.2.2.1
def dL_law_1140 := bL_law_1122.2.2.2.2.2.2.2.2.2.2.2.2.1
def dL_law_1142 := bL_law_1122.2.2.2.2.2.2.2.2.2.2.2.2.2.1
def dL_law_1143 := bL_law_1122.2.2.2.2.2.2.2.2.2.2.2.2.2.2.1
def dL_law_1144 := bL_law_1122.2.2.2.2.2.2.2.2.2.2.2.2.2.2.2.1
theorem bL_law_1145 : fac cL_law [(1145, .aload_n 3, 1), (1146, .invokestatic 191, 3), (1149, .istore 5, 2), (1151, .aload_n 2, 1), (1152, .aload_n 0, 1), (1153, .iload 4, 2), (1155, .iconst 1, 1), (1156, .iadd, 1), (1157, .iaload, 1), (1158, .aload_n 0, 1), (1159, .iload 4, 2), (1161, .iconst 2, 1), (1162, .iadd, 1), (1163, .iaload, 1), (1164, .invokevirtual 193, 3), (1167, .istore 6, 2)] := fac_all 1145 _ (by decide +kernel)
def dL_law_1145 := bL_law_1145.1
def dL_law_1146 := bL_law_1145.2.1
def dL_law_1149 := bL_law_1145.2.2.1
def dL_law_1151 := bL_law_1145.2.2.2.1
def dL_law_1152 := bL_law_1145.2.2.2.2.1
def dL_law_1153 := bL_law_1145.2.2.2.2.2.1
def dL_law_1155 := bL_law_1145.2.2.2.2.2.2.1
def dL_law_1156 := bL_law_1145.2.2.2.2.2.2.2.1
def dL_law_1157 := bL_law_1145.2.2.2.2.2.2.2.2.1
def dL_law_1158 := bL_law_1145.2.2.2.2.2.2.2.2.2.1
def dL_law_1159 := bL_law_1145.2.2.2.2.2.2.2.2.2.2.1
def dL_law_1161 := bL_law_1145.2.2.2.2.2.2.2.2.2.2.2.1
def dL_law_1162 := bL_law_1145.2.2.2.2.2.2.2.2.2.2.2.2.1
def dL_law_1163 := bL_law_1145.2.2.2.2.2.2.2.2.2.2.2.2.2.1
def dL_law_1164 := bL_law_1145.2.2.2.2.2.2.2.2.2.2.2.2.2.2.1
def dL_law_1167 := bL_law_1145.2.2.2.2.2.2.2.2.2.2.2.2.2.2.2.1
theorem bL_law_1169 : fac cL_law [(1169, .goto 172, 3), (1172, .aload_n 1, 1), (1173, .aload_n 0, 1), (1174, .iload 4, 2), (1176, .iconst 1, 1), (1177, .iadd, 1), (1178, .iaload, 1), (1179, .aload_n 0, 1), (1180, .iload 4, 2), (1182, .iconst 2, 1), (1183, .iadd, 1), (1184, .iaload, 1), (1185, .aload_n 0, 1), (1186, .iload 4, 2), (1188, .iconst 3, 1), (1189, .iadd, 1)] := fac_all 1169 _ (by decide +kernel)
def dL_law_1169 := bL_law_1169.1
def dL_law_1172 := bL_law_1169.2.1
def dL_law_1173 := bL_law_1169.2.2.1
def dL_law_1174 := bL_law_1169.2.2.2.1
def dL_law_1176 := bL_law_1169.2.2.2.2.1
def dL_law_1177 := bL_law_1169.2.2.2.2.2.1
def dL_law_1178 := bL_law_1169.2.2.2.2.2.2.1
def dL_law_1179 := bL_law_1169.2.2.2.2.2.2.2.1
def dL_law_1180 := bL_law_1169.2.2.2.2.2.2.2.2.1
def dL_law_1182 := bL_law_1169.2.2.2.2.2.2.2.2.2.1
def dL_law_1183 := bL_law_1169.2.2.2.2.2.2.2.2.2.2.1
def dL_law_1184 := bL_law_1169.2.2.2.2.2.2.2.2.2.2.2.1
def dL_law_1185 := bL_law_1169.2.2.2.2.2.2.2.2.2.2.2.2.1
def dL_law_1186 := bL_law_1169.2.2.2.2.2.2.2.2.2.2.2.2.2.1
def dL_law_1188 := bL_law_1169.2.2.2.2.2.2.2.2.2.2.2.2.2.2.1
def dL_law_1189 := bL_law_1169.2.2.2.2.2.2.2.2.2.2.2.2.2.2.2.1
theorem bL_law_1190 : fac cL_law [(1190, .iaload, 1), (1191, .aload_n 3, 1), (1192, .invokestatic 194, 3), (1195, .istore 5, 2), (1197, .aload_n 2, 1), (1198, .aload_n 0, 1), (1199, .iload 4, 2), (1201, .iconst 1, 1), (1202, .iadd, 1), (1203, .iaload, 1), (1204, .aload_n 0, 1), (1205, .iload 4, 2), (1207, .iconst 2, 1), (1208, .iadd, 1), (1209, .iaload, 1), (1210, .aload_n 0, 1)] := fac_all 1190 _ (by decide +kernel)
def dL_law_1190 := bL_law_1190.1
def dL_law_1191 := bL_law_1190.2.1
def dL_law_1192 := bL_law_1190.2.2.1
def dL_law_1195 := bL_law_1190.2.2.2.1
def dL_law_1197 := bL_law_1190.2.2.2.2.1
def dL_law_1198 := bL_law_1190.2.2.2.2.2.1
def dL_law_1199 := bL_law_1190.2.2.2.2.2.2.1
def dL_law_1201 := bL_law_1190.2.2.2.2.2.2.2.1
def dL_law_1202 := bL_law_1190.2.2.2.2.2.2.2.2.1
def dL_law_1203 := bL_law_1190.2.2.2.2.2.2.2.2.2.1
def dL_law_1204 := bL_law_1190.2.2.2.2.2.2.2.2.2.2.1
def dL_law_1205 := bL_law_1190.2.2.2.2.2.2.2.2.2.2.2.1
def dL_law_1207 := bL_law_1190.2.2.2.2.2.2.2.2.2.2.2.2.1
def dL_law_1208 := bL_law_1190.2.2.2.2.2.2.2.2.2.2.2.2.2.1
def dL_law_1209 := bL_law_1190.2.2.2.2.2.2.2.2.2.2.2.2.2.2.1
def dL_law_1210 := bL_law_1190.2.2.2.2.2.2.2.2.2.2.2.2.2.2.2.1
theorem bL_law_1211 : fac cL_law [(1211, .iload 4, 2), (1213, .iconst 3, 1), (1214, .iadd, 1), (1215, .iaload, 1), (1216, .invokevirtual 196, 3), (1219, .istore 6, 2), (1221, .goto 120, 3), (1224, .aload_n 1, 1), (1225, .invokevirtual 197, 3), (1228, .pop, 1), (1229, .aload_n 2, 1), (1230, .invokevirtual 200, 3), (1233, .pop, 1), (1234, .goto 107, 3), (1237, .aload_n 1, 1), (1238, .aload_n 0, 1)] := fac_all 1211 _ (by decide +kernel)
def dL_law_1211 := bL_law_1211.1
def dL_law_1213 := bL_law_1211.2.1
def dL_law_1214 := bL_law_1211.2.2.1
def dL_law_1215 := bL_law_1211.2.2.2.1
def dL_law_1216 := bL_law_1211.2.2.2.2.1
def dL_law_1219 := bL_law_1211.2.2.2.2.2.1
def dL_law_1221 := bL_law_1211.2.2.2.2.2.2.1
def dL_law_1224 := bL_law_1211.2.2.2.2.2.2.2.1
def dL_law_1225 := bL_law_1211.2.2.2.2.2.2.2.2.1
def dL_law_1228 := bL_law_1211.2.2.2.2.2.2.2.2.2.1
def dL_law_1229 := bL_law_1211.2.2.2.2.2.2.2.2.2.2.1
def dL_law_1230 := bL_law_1211.2.2.2.2.2.2.2.2.2.2.2.1
def dL_law_1233 := bL_law_1211.2.2.2.2.2.2.2.2.2.2.2.2.1
def dL_law_1234 := bL_law_1211.2.2.2.2.2.2.2.2.2.2.2.2.2.1
def dL_law_1237 := bL_law_1211.2.2.2.2.2.2.2.2.2.2.2.2.2.2.1
def dL_law_1238 := bL_law_1211.2.2.2.2.2.2.2.2.2.2.2.2.2.2.2.1
theorem bL_law_1239 : fac cL_law [(1239, .iload 4, 2), (1241, .iconst 1, 1), (1242, .iadd, 1), (1243, .iaload, 1), (1244, .aload_n 3, 1), (1245, .invokestatic 201, 3), (1248, .istore 5, 2), (1250, .aload_n 2, 1), (1251, .aload_n 0, 1), (1252, .iload 4, 2), (1254, .iconst 1, 1), (1255, .iadd, 1), (1256, .iaload, 1), (1257, .invokevirtual 203, 3), (1260, .istore 6, 2), (1262, .goto 79, 3)] := fac_all 1239 _ (by decide +kernel)
def dL_law_1239 := bL_law_1239.1
def dL_law_1241 := bL_law_1239.2.1
def dL_law_1242 := bL_law_1239.2.2.1
def dL_law_1243 := bL_law_1239.2.2.2.1
def dL_law_1244 := bL_law_1239.2.2.2.2.1
def dL_law_1245 := bL_law_1239.2.2.2.2.2.1
def dL_law_1248 := bL_law_1239.2.2.2.2.2.2.1
def dL_law_1250 := bL_law_1239.2.2.2.2.2.2.2.1
def dL_law_1251 := bL_law_1239.2.2.2.2.2.2.2.2.1
def dL_law_1252 := bL_law_1239.2.2.2.2.2.2.2.2.2.1
def dL_law_1254 := bL_law_1239.2.2.2.2.2.2.2.2.2.2.1
def dL_law_1255 := bL_law_1239.2.2.2.2.2.2.2.2.2.2.2.1
def dL_law_1256 := bL_law_1239.2.2.2.2.2.2.2.2.2.2.2.2.1
def dL_law_1257 := bL_law_1239.2.2.2.2.2.2.2.2.2.2.2.2.2.1
def dL_law_1260 := bL_law_1239.2.2.2.2.2.2.2.2.2.2.2.2.2.2.1
def dL_law_1262 := bL_law_1239.2.2.2.2.2.2.2.2.2.2.2.2.2.2.2.1
theorem bL_law_1265 : fac cL_law [(1265, .aload_n 1, 1), (1266, .invokevirtual 204, 3), (1269, .pop, 1), (1270, .aload_n 2, 1), (1271, .invokevirtual 207, 3), (1274, .pop, 1), (1275, .goto 66, 3), (1278, .aload_n 1, 1), (1279, .invokevirtual 208, 3), (1282, .pop, 1), (1283, .aload_n 2, 1), (1284, .invokevirtual 211, 3), (1287, .pop, 1), (1288, .goto 53, 3), (1291, .aload_n 1, 1), (1292, .aload_n 0, 1)] := fac_all 1265 _ (by decide +kernel)
def dL_law_1265 := bL_law_1265.1
def dL_law_1266 := bL_law_1265.2.1
def dL_law_1269 := bL_law_1265.2.2.1
def dL_law_1270 := bL_law_1265.2.2.2.1
def dL_law_1271 := bL_law_1265.2.2.2.2.1
def dL_law_1274 := bL_law_1265.2.2.2.2.2.1
def dL_law_1275 := bL_law_1265.2.2.2.2.2.2.1
def dL_law_1278 := bL_law_1265.2.2.2.2.2.2.2.1
def dL_law_1279 := bL_law_1265.2.2.2.2.2.2.2.2.1
def dL_law_1282 := bL_law_1265.2.2.2.2.2.2.2.2.2.1
def dL_law_1283 := bL_law_1265.2.2.2.2.2.2.2.2.2.2.1
def dL_law_1284 := bL_law_1265.2.2.2.2.2.2.2.2.2.2.2.1
def dL_law_1287 := bL_law_1265.2.2.2.2.2.2.2.2.2.2.2.2.1
def dL_law_1288 := bL_law_1265.2.2.2.2.2.2.2.2.2.2.2.2.2.1
def dL_law_1291 := bL_law_1265.2.2.2.2.2.2.2.2.2.2.2.2.2.2.1
def dL_law_1292 := bL_law_1265.2.2.2.2.2.2.2.2.2.2.2.2.2.2.2.1
theorem bL_law_1293 : fac cL_law [(1293, .iload 4, 2), (1295, .iconst 1, 1), (1296, .iadd, 1), (1297, .iaload, 1), (1298, .invokevirtual 212, 3), (1301, .pop, 1), (1302, .aload_n 2, 1), (1303, .aload_n 0, 1), (1304, .iload 4, 2), (1306, .iconst 1, 1), (1307, .iadd, 1), (1308, .iaload, 1), (1309, .invokevirtual 215, 3), (1312, .pop, 1), (1313, .goto 28, 3), (1316, .aload_n 1, 1)] := fac_all 1293 _ (by decide +kernel)
def dL_law_1293 := bL_law_1293.1
def dL_law_1295 := bL_law_1293.2.1
def dL_law_1296 := bL_law_1293.2.2.1
def dL_law_1297 := bL_law_1293.2.2.2.1
def dL_law_1298 := bL_law_1293.2.2.2.2.1
def dL_law_1301 := bL_law_1293.2.2.2.2.2.1
def dL_law_1302 := bL_law_1293.2.2.2.2.2.2.1
def dL_law_1303 := bL_law_1293.2.2.2.2.2.2.2.1
def dL_law_1304 := bL_law_1293.2.2.2.2.2.2.2.2.1
def dL_law_1306 := bL_law_1293.2.2.2.2.2.2.2.2.2.1
def dL_law_1307 := bL_law_1293.2.2.2.2.2.2.2.2.2.2.1
def dL_law_1308 := bL_law_1293.2.2.2.2.2.2.2.2.2.2.2.1
def dL_law_1309 := bL_law_1293.2.2.2.2.2.2.2.2.2.2.2.2.1
def dL_law_1312 := bL_law_1293.2.2.2.2.2.2.2.2.2.2.2.2.2.1
def dL_law_1313 := bL_law_1293.2.2.2.2.2.2.2.2.2.2.2.2.2.2.1
def dL_law_1316 := bL_law_1293.2.2.2.2.2.2.2.2.2.2.2.2.2.2.2.1
theorem bL_law_1317 : fac cL_law [(1317, .aload_n 0, 1), (1318, .iload 4, 2), (1320, .iconst 1, 1), (1321, .iadd, 1), (1322, .iaload, 1), (1323, .invokevirtual 216, 3), (1326, .aload_n 2, 1), (1327, .aload_n 0, 1), (1328, .iload 4, 2), (1330, .iconst 1, 1), (1331, .iadd, 1), (1332, .iaload, 1), (1333, .invokevirtual 219, 3), (1336, .if_icmp .eq 5, 3), (1339, .iconst 0, 1), (1340, .ireturn, 1)] := fac_all 1317 _ (by decide +kernel)
def dL_law_1317 := bL_law_1317.1
def dL_law_1318 := bL_law_1317.2.1
def dL_law_1320 := bL_law_1317.2.2.1
def dL_law_1321 := bL_law_1317.2.2.2.1
def dL_law_1322 := bL_law_1317.2.2.2.2.1
def dL_law_1323 := bL_law_1317.2.2.2.2.2.1
def dL_law_1326 := bL_law_1317.2.2.2.2.2.2.1
def dL_law_1327 := bL_law_1317.2.2.2.2.2.2.2.1
def dL_law_1328 := bL_law_1317.2.2.2.2.2.2.2.2.1
def dL_law_1330 := bL_law_1317.2.2.2.2.2.2.2.2.2.1
def dL_law_1331 := bL_law_1317.2.2.2.2.2.2.2.2.2.2.1
def dL_law_1332 := bL_law_1317.2.2.2.2.2.2.2.2.2.2.2.1
def dL_law_1333 := bL_law_1317.2.2.2.2.2.2.2.2.2.2.2.2.1
def dL_law_1336 := bL_law_1317.2.2.2.2.2.2.2.2.2.2.2.2.2.1
theorem bL_law_1341 : fac cL_law [(1341, .iinc 4 6, 3), (1344, .goto (-1321), 3), (1347, .iconst 1, 1), (1348, .ireturn, 1)] := fac_all 1341 _ (by decide +kernel)
def dL_law_1341 := bL_law_1341.1
def dL_law_1344 := bL_law_1341.2.1
def dL_law_1347 := bL_law_1341.2.2.1
def dL_law_1348 := bL_law_1341.2.2.2.1

end
section
/-! class, reference and the row of one long as one state -/
def IL (g : he_G) (x0 m0 o0 : Nat) (Sx Sm : AbS) (t : Int32) (fo : Nat → Int64) (W : va_W) : Prop := ∃ (fx fm : List Value) (Rc Rm : va_W), W = [(x0, .inr (9, fx)), (m0, .inr (10, fm)), (o0, .inl (g.2 5, 1, .inr (.inl fo)))] ++ (Rc ++ Rm) ∧ IC g x0 Sx ((x0, .inr (9, fx)) :: Rc) ∧ IM g m0 Sm t ((m0, .inr (10, fm)) :: Rm)
theorem pm_C {a b c : Nat × va_E} {R Q : va_W} : ([a, b, c] ++ (R ++ Q)).Perm ((a :: R) ++ (b :: c :: Q)) := by
  show (a :: b :: c :: (R ++ Q)).Perm (a :: (R ++ (b :: c :: Q)))
  refine List.Perm.cons a ?_
  exact (List.perm_middle.trans (List.Perm.cons b List.perm_middle)).symm
theorem pm_M {a b c : Nat × va_E} {R Q : va_W} : ([a, b, c] ++ (R ++ Q)).Perm ((b :: Q) ++ (a :: c :: R)) := by
  show (a :: b :: c :: (R ++ Q)).Perm (b :: (Q ++ (a :: c :: R)))
  refine (List.Perm.swap b a _).trans (List.Perm.cons b ?_)
  exact (List.Perm.cons a (List.Perm.cons c List.perm_append_comm)).trans ((List.perm_middle.trans (List.Perm.cons a List.perm_middle)).symm)
section ILS
variable {l : Launch} {y : MethodName} {wl : List Cond} {fr lo mc ms : Nat} {g : he_G} {av : List Value} {x0 m0 o0 : Nat} {Sx Sx2 Sm Sm2 : AbS} {t : Int32} {fx fm : List Value} {fo : Nat → Int64} {Rc Rm : va_W}
theorem il_cI {pr : Int32 → Prop} (h : he_I l y wl fr lo mc ms g av ((x0, .inr (9, fx)) :: Rc) (fun (r : Int32) (W2 : va_W) => IC g x0 Sx2 W2 ∧ pr r) (fun W2 => W2)) (hm : IM g m0 Sm t ((m0, .inr (10, fm)) :: Rm)) : he_I l y wl fr lo mc ms g av ([(x0, .inr (9, fx)), (m0, .inr (10, fm)), (o0, .inl (g.2 5, 1, .inr (.inl fo)))] ++ (Rc ++ Rm)) (fun (r : Int32) (W2 : va_W) => IL g x0 m0 o0 Sx2 Sm t fo W2 ∧ pr r) (fun W2 => W2) := by
  refine he_liftI ((m0, .inr (10, fm)) :: (o0, .inl (g.2 5, 1, .inr (.inl fo))) :: Rm) h ⟨Nat.le_refl _, Nat.le_refl _, Nat.le_refl _, Nat.le_refl _⟩ pm_C (fun r u hu => ?_)
  obtain ⟨fx2, R2, rfl⟩ := hu.1.head
  exact ⟨_, ⟨⟨fx2, fm, R2, Rm, rfl, hu.1, hm⟩, hu.2⟩, pm_C⟩
theorem il_cJ {pr : Int64 → Prop} (h : he_J l y wl fr lo mc ms g av ((x0, .inr (9, fx)) :: Rc) (fun (r : Int64) (W2 : va_W) => IC g x0 Sx2 W2 ∧ pr r) (fun W2 => W2)) (hm : IM g m0 Sm t ((m0, .inr (10, fm)) :: Rm)) : he_J l y wl fr lo mc ms g av ([(x0, .inr (9, fx)), (m0, .inr (10, fm)), (o0, .inl (g.2 5, 1, .inr (.inl fo)))] ++ (Rc ++ Rm)) (fun (r : Int64) (W2 : va_W) => IL g x0 m0 o0 Sx2 Sm t fo W2 ∧ pr r) (fun W2 => W2) := by
  refine he_liftJ ((m0, .inr (10, fm)) :: (o0, .inl (g.2 5, 1, .inr (.inl fo))) :: Rm) h ⟨Nat.le_refl _, Nat.le_refl _, Nat.le_refl _, Nat.le_refl _⟩ pm_C (fun r u hu => ?_)
  obtain ⟨fx2, R2, rfl⟩ := hu.1.head
  exact ⟨_, ⟨⟨fx2, fm, R2, Rm, rfl, hu.1, hm⟩, hu.2⟩, pm_C⟩
theorem il_cV {pr : Prop} (h : he_V l y wl fr lo mc ms g av ((x0, .inr (9, fx)) :: Rc) (fun (W2 : va_W) => IC g x0 Sx2 W2 ∧ pr) (fun W2 => W2)) (hm : IM g m0 Sm t ((m0, .inr (10, fm)) :: Rm)) : he_V l y wl fr lo mc ms g av ([(x0, .inr (9, fx)), (m0, .inr (10, fm)), (o0, .inl (g.2 5, 1, .inr (.inl fo)))] ++ (Rc ++ Rm)) (fun (W2 : va_W) => IL g x0 m0 o0 Sx2 Sm t fo W2 ∧ pr) (fun W2 => W2) := by
  refine he_liftV ((m0, .inr (10, fm)) :: (o0, .inl (g.2 5, 1, .inr (.inl fo))) :: Rm) h ⟨Nat.le_refl _, Nat.le_refl _, Nat.le_refl _, Nat.le_refl _⟩ pm_C (fun u hu => ?_)
  obtain ⟨fx2, R2, rfl⟩ := hu.1.head
  exact ⟨_, ⟨⟨fx2, fm, R2, Rm, rfl, hu.1, hm⟩, hu.2⟩, pm_C⟩
theorem il_Ti {En : String} {W9 : va_W} (h : he_T he_QTi l y wl fr lo mc ms g av ((x0, .inr (9, fx)) :: Rc) En W9) (hc : IC g x0 Sx W9) (hm : IM g m0 Sm t ((m0, .inr (10, fm)) :: Rm)) : ∃ W2, IL g x0 m0 o0 Sx Sm t fo W2 ∧ he_T he_QTi l y wl fr lo mc ms g av ([(x0, .inr (9, fx)), (m0, .inr (10, fm)), (o0, .inl (g.2 5, 1, .inr (.inl fo)))] ++ (Rc ++ Rm)) En W2 := by
  obtain ⟨fx2, R2, rfl⟩ := hc.head
  exact ⟨_, ⟨fx2, fm, R2, Rm, rfl, hc, hm⟩, he_liftTi ((m0, .inr (10, fm)) :: (o0, .inl (g.2 5, 1, .inr (.inl fo))) :: Rm) h ⟨Nat.le_refl _, Nat.le_refl _, Nat.le_refl _, Nat.le_refl _⟩ pm_C pm_C⟩
theorem il_Tj {En : String} {W9 : va_W} (h : he_T he_QTj l y wl fr lo mc ms g av ((x0, .inr (9, fx)) :: Rc) En W9) (hc : IC g x0 Sx W9) (hm : IM g m0 Sm t ((m0, .inr (10, fm)) :: Rm)) : ∃ W2, IL g x0 m0 o0 Sx Sm t fo W2 ∧ he_T he_QTj l y wl fr lo mc ms g av ([(x0, .inr (9, fx)), (m0, .inr (10, fm)), (o0, .inl (g.2 5, 1, .inr (.inl fo)))] ++ (Rc ++ Rm)) En W2 := by
  obtain ⟨fx2, R2, rfl⟩ := hc.head
  exact ⟨_, ⟨fx2, fm, R2, Rm, rfl, hc, hm⟩, he_liftTj ((m0, .inr (10, fm)) :: (o0, .inl (g.2 5, 1, .inr (.inl fo))) :: Rm) h ⟨Nat.le_refl _, Nat.le_refl _, Nat.le_refl _, Nat.le_refl _⟩ pm_C pm_C⟩
theorem il_Tv {En : String} {W9 : va_W} (h : he_T he_QTv l y wl fr lo mc ms g av ((x0, .inr (9, fx)) :: Rc) En W9) (hc : IC g x0 Sx W9) (hm : IM g m0 Sm t ((m0, .inr (10, fm)) :: Rm)) : ∃ W2, IL g x0 m0 o0 Sx Sm t fo W2 ∧ he_T he_QTv l y wl fr lo mc ms g av ([(x0, .inr (9, fx)), (m0, .inr (10, fm)), (o0, .inl (g.2 5, 1, .inr (.inl fo)))] ++ (Rc ++ Rm)) En W2 := by
  obtain ⟨fx2, R2, rfl⟩ := hc.head
  exact ⟨_, ⟨fx2, fm, R2, Rm, rfl, hc, hm⟩, he_liftTv ((m0, .inr (10, fm)) :: (o0, .inl (g.2 5, 1, .inr (.inl fo))) :: Rm) h ⟨Nat.le_refl _, Nat.le_refl _, Nat.le_refl _, Nat.le_refl _⟩ pm_C pm_C⟩
theorem il_mI {pr : Int32 → Int32 → Prop} (h : he_I l y wl fr lo mc ms g av ((m0, .inr (10, fm)) :: Rm) (fun (r : Int32) (W2 : va_W) => ∃ t2 : Int32, IM g m0 Sm2 t2 W2 ∧ pr r t2) (fun W2 => W2)) (hc : IC g x0 Sx ((x0, .inr (9, fx)) :: Rc)) : he_I l y wl fr lo mc ms g av ([(x0, .inr (9, fx)), (m0, .inr (10, fm)), (o0, .inl (g.2 5, 1, .inr (.inl fo)))] ++ (Rc ++ Rm)) (fun (r : Int32) (W2 : va_W) => ∃ t2 : Int32, IL g x0 m0 o0 Sx Sm2 t2 fo W2 ∧ pr r t2) (fun W2 => W2) := by
  refine he_liftI ((x0, .inr (9, fx)) :: (o0, .inl (g.2 5, 1, .inr (.inl fo))) :: Rc) h ⟨Nat.le_refl _, Nat.le_refl _, Nat.le_refl _, Nat.le_refl _⟩ pm_M (fun r u hu => ?_)
  obtain ⟨t2, hu, hp⟩ := hu
  obtain ⟨fm2, R2, rfl⟩ := hu.head
  exact ⟨_, ⟨t2, ⟨fx, fm2, Rc, R2, rfl, hc, hu⟩, hp⟩, pm_M⟩
theorem il_mJ {pr : Int64 → Int32 → Prop} (h : he_J l y wl fr lo mc ms g av ((m0, .inr (10, fm)) :: Rm) (fun (r : Int64) (W2 : va_W) => ∃ t2 : Int32, IM g m0 Sm2 t2 W2 ∧ pr r t2) (fun W2 => W2)) (hc : IC g x0 Sx ((x0, .inr (9, fx)) :: Rc)) : he_J l y wl fr lo mc ms g av ([(x0, .inr (9, fx)), (m0, .inr (10, fm)), (o0, .inl (g.2 5, 1, .inr (.inl fo)))] ++ (Rc ++ Rm)) (fun (r : Int64) (W2 : va_W) => ∃ t2 : Int32, IL g x0 m0 o0 Sx Sm2 t2 fo W2 ∧ pr r t2) (fun W2 => W2) := by
  refine he_liftJ ((x0, .inr (9, fx)) :: (o0, .inl (g.2 5, 1, .inr (.inl fo))) :: Rc) h ⟨Nat.le_refl _, Nat.le_refl _, Nat.le_refl _, Nat.le_refl _⟩ pm_M (fun r u hu => ?_)
  obtain ⟨t2, hu, hp⟩ := hu
  obtain ⟨fm2, R2, rfl⟩ := hu.head
  exact ⟨_, ⟨t2, ⟨fx, fm2, Rc, R2, rfl, hc, hu⟩, hp⟩, pm_M⟩
theorem il_mV {pr : Int32 → Prop} (h : he_V l y wl fr lo mc ms g av ((m0, .inr (10, fm)) :: Rm) (fun (W2 : va_W) => ∃ t2 : Int32, IM g m0 Sm2 t2 W2 ∧ pr t2) (fun W2 => W2)) (hc : IC g x0 Sx ((x0, .inr (9, fx)) :: Rc)) : he_V l y wl fr lo mc ms g av ([(x0, .inr (9, fx)), (m0, .inr (10, fm)), (o0, .inl (g.2 5, 1, .inr (.inl fo)))] ++ (Rc ++ Rm)) (fun (W2 : va_W) => ∃ t2 : Int32, IL g x0 m0 o0 Sx Sm2 t2 fo W2 ∧ pr t2) (fun W2 => W2) := by
  refine he_liftV ((x0, .inr (9, fx)) :: (o0, .inl (g.2 5, 1, .inr (.inl fo))) :: Rc) h ⟨Nat.le_refl _, Nat.le_refl _, Nat.le_refl _, Nat.le_refl _⟩ pm_M (fun u hu => ?_)
  obtain ⟨t2, hu, hp⟩ := hu
  obtain ⟨fm2, R2, rfl⟩ := hu.head
  exact ⟨_, ⟨t2, ⟨fx, fm2, Rc, R2, rfl, hc, hu⟩, hp⟩, pm_M⟩
end ILS
/-- with one more: IllegalArgumentException is no IndexOutOfBoundsException -/
def he_nc2 (U : State) : Prop := va_Nc "java/lang/IllegalArgumentException" "java/lang/IndexOutOfBoundsException" U
abbrev he_IN {S : Type} (l : Launch) (y : MethodName) (wl : List Cond) (fr lo mc ms : Nat) (g : he_G) (av : List Value) (ws : va_W) (post : Int32 → S → Prop) (w1 : S → va_W) : Prop := ∀ sz : Nat, Met l y wl (he_room fr lo mc ms) (va_Pc av (fun U => he_pre g ws sz U ∧ he_nc2 U)) (va_Qi post (fun u t => he_post g (va_A ws sz) (w1 u) t) (va_A ws sz)) mc ms (va_A ws sz)
theorem he_fbN {g : he_G} {ws : va_W} {sz : Nat} {av : List Value} : FrameBlind (va_Pc av (fun U => he_pre g ws sz U ∧ he_nc2 U)) := by
  intro a U f mk q
  obtain ⟨q0, q1, qN⟩ := q
  have h := he_fb a U f mk (⟨q0, q1⟩ : va_Pc av (he_pre g ws sz) a U)
  exact ⟨h.1, h.2, va_Nc.moved (u := U) (U := U.calling f mk a) (Vm.Alike.refl U.vm) qN⟩
section HNC
variable {p : Program} {l : Launch} {e : Env} {s : State} {H : Heap} {locs : List Loc} {g : he_G} {A : Nat → Prop} {ws wc : va_W}
theorem he_preSN (hN : he_nc2 s) (hK : va_K g.1 vwCl (he_ty g) s) (hP : va_P g.1 vwCl ws H) (hD : va_D A ws) (hS : va_S A s.heap H locs) (hA : ∀ q, s.heap.size ≤ q → A q) (hE : he_E g A s s.heap) (isC : List Nat) (hC : isC.map (fun i => ws[i]?) = wc.map some) (hnd : va_nd isC = true) {av : List Value} : PreS s H (va_Pc av (fun U => he_pre g wc H.size U ∧ he_nc2 U)) av := ⟨he_fbN, fun U hU hW => ⟨rfl, he_preX hK hP hD hS hA hE isC hC hnd U hU hW, va_Nc.moved hW.alike hN⟩⟩
end HNC
section HLN
variable {l : Launch} {g : he_G} {y : MethodName} {wl wl' : List Cond} {cc : ByteArray} {maxL fr lo mc ms : Nat} {av : List Value} {ws : va_W}
theorem he_beginHN {ret : Option FieldType} {hh : List (Nat × Nat × Nat × Nat)} (Qf : (Nat → Prop) → Array Value → State → Outcome → State → Prop) (hy : plainName y.cls = true) (hw : wl = Cond.codeWith y cc maxL ret hh :: wl') (hav : (lg_sl av).length ≤ maxL)
    (body : ∀ (p : Program) (e : Env) (s : State) (m : MethodId) (args : Array Value) (below : List Frame) (meth : Method) (c : Code) (A : Nat → Prop) (ls : Array Slot) (H : Heap) (locs : List Loc) (Q : State → Prop), Q = MQ below (Qf A) args s mc ms A → c.exceptionTable.toList = tableOf hh → he_nc2 s → he_B p s m args meth c A ls H locs g y wl cc maxL ret av ws →
      W p l e (he_room fr lo mc ms) s m args below meth c H locs 0 0 Q (F0 m 0 ls [])) (sz : Nat) : Met l y wl (he_room fr lo mc ms) (va_Pc av (fun U => he_pre g ws sz U ∧ he_nc2 U)) (Qf (va_A ws sz)) mc ms (va_A ws sz) := by
  refine MetFree.of_bodyS (code := cc) (maxLocals := maxL) (ret := ret) hy ?_ ?_
  · intro args s m h hn
    obtain ⟨m9, meth, c, hn9, h1, h2, h3, h4, -, h5, h6, -⟩ := Cond.codeWith_spec (atoms_spec (ws := wl) h _ (by rw [hw]; exact List.mem_cons_self))
    cases hn.symm.trans hn9
    exact ⟨meth, c, h1, h2, h3, h4, h5, h6⟩
  · intro p e s m args below meth c s₁ B hml hv _
    have hh0 : s₁.heap = s.heap := by rw [B.state]; rfl
    obtain ⟨rfl, ⟨hsz, hP, hK, hD0, hE⟩, hN⟩ := hv
    subst hsz
    have hD := hD0.self (sz := s.heap.size)
    have hl := lv_entry av (n := maxL) hav
    have ht := vx_table (x := y) B (atoms_spec (ws := wl) B.pre _ (by rw [hw]; exact List.mem_cons_self))
    have hk := body p e s m _ below meth c (va_A ws s.heap.size) _ _ _ _ rfl ht hN ⟨B.exec, B.bytes, B.returns, hml, findClass_of_methodNamed B.named, atoms_spec (ws := wl) B.pre, B.notSynchronized, (name_of_methodNamed B.named B.method).1, hP, hK, hD, va_S.rf, fun q h => Or.inr h, hE, hl⟩
    rw [← lg_entry_eq] at hk
    obtain ⟨t, a1, o, b1, b2, b3⟩ := hk s₁ hh0 (Stand.of_body B)
    exact ⟨t, o, a1, b1, b2, ⟨b3.1, b3.2⟩⟩
end HLN
end
section
set_option maxHeartbeats 8000000 in
set_option maxRecDepth 100000 in
theorem w_siege (l : Launch) (hlt : l.stackTraces = false) (g : he_G) (x0 m0 o0 : Nat) (Sx Sm : AbS) (t : Int32) (fo : Nat → Int64) (W : va_W) (x_ : Int32) (hI : IL g x0 m0 o0 Sx Sm t fo W) : he_I l yL_siege wsL_siege 9 208 1 6 g [.ref x0, .int x_, .ref o0] W (fun (r : Int32) (W2 : va_W) => ∃ fo2 : Nat → Int64, IL g x0 m0 o0 (sp_siege Sx x_).2.2 Sm t fo2 W2 ∧ r = (sp_siege Sx x_).1 ∧ ((sp_siege Sx x_).1 = 0 → fo2 0 = Int32.toInt64 (sp_siege Sx x_).2.1)) (fun W2 => W2) := by
  obtain ⟨fx, fm, Rc, Rm, rfl, hc, hm⟩ := hI
  refine he_beginH (l := l) (g := g) (y := yL_siege) (wl := wsL_siege) (fr := 9) (lo := 208) (mc := 1) (ms := 6) (av := [.ref x0, .int x_, .ref o0]) (ws := [(x0, .inr (9, fx)), (m0, .inr (10, fm)), (aL g o0 1 fo)] ++ (Rc ++ Rm)) (cc := cL_siege) (maxL := 4) (ret := (some .int)) (hh := [(0, 9, 12, 13)]) (fun A => va_Qi (fun (r : Int32) (W2 : va_W) => ∃ fo2 : Nat → Int64, IL g x0 m0 o0 (sp_siege Sx x_).2.2 Sm t fo2 W2 ∧ r = (sp_siege Sx x_).1 ∧ ((sp_siege Sx x_).1 = 0 → fo2 0 = Int32.toInt64 (sp_siege Sx x_).2.1)) (fun u t => he_post g A ((fun (W2 : va_W) => W2) u) t) A) (by decide) rfl (Nat.le_of_ble_eq_true rfl) ?_
  intro p e s m args below meth c A ls H locs Q hQ htab hB
  obtain ⟨hx, hb, hr, hml, hown, hts, hlk, hin, hP, hK, hD, hS, hA, hE, hl⟩ := hB
  have hl : lv_has ls 4 [(0, .ref x0), (1, .int x_), (2, .ref o0)] := hl
  have cl13 := hts (.classLink RL 13 "java/lang/IllegalArgumentException") (by decide +kernel)
  refine lv_aload_n hx hb dL_siege_0 rfl (lv_at hl 2 rfl) ?_
  refine lv_iconst (v := 0) hx hb dL_siege_1 (by decide) ?_
  refine lv_aload_n hx hb dL_siege_2 rfl (lv_at hl 0 rfl) ?_
  refine lv_iload_n hx hb dL_siege_3 rfl (lv_at hl 1 rfl) ?_
  rcases k_siege l hlt g x0 Sx _ x_ hc with ⟨hcd, h9⟩ | ⟨hcd, W9, hI9, h9⟩
  · refine he_ci (wc := ([(x0, .inr (9, fx)), (m0, .inr (10, fm)), (aL g o0 1 fo)] ++ (Rc ++ Rm))) (wr := []) (va_runV (As := [.int x_]) (rest := [.int 0, .ref o0]) ⟨hx, hb, hml, hown, hts⟩ (il_cI h9 hm H.size) (cwV 1 hts gL_siege_X10_siege rfl rfl rfl (by decide +kernel) ⟨Nat.le_of_ble_eq_true rfl, Nat.le_of_ble_eq_true rfl⟩) (he_preV (wc := ([(x0, .inr (9, fx)), (m0, .inr (10, fm)), (aL g o0 1 fo)] ++ (Rc ++ Rm))) hK hP hD hS hA hE (List.range (([(x0, .inr (9, fx)), (m0, .inr (10, fm)), (aL g o0 1 fo)] ++ (Rc ++ Rm)) : va_W).length) (he_all _) (he_allnd _) 0 rfl rfl) rfl rfl hl.1 rfl (lv_room (Nat.le_of_ble_eq_true rfl)) dL_siege_4 ⟨(Nat.le_of_ble_eq_true rfl), (Nat.le_of_ble_eq_true rfl)⟩) hP hD hS hA (List.range (([(x0, .inr (9, fx)), (m0, .inr (10, fm)), (aL g o0 1 fo)] ++ (Rc ++ Rm)) : va_W).length) [] (he_all _) rfl rfl (fun _ h9 => absurd h9 List.not_mem_nil) (fun r_1 u_2 H locs hu_3 hP hD hS => ?_)
    obtain ⟨hI9, hp4⟩ := hu_3
    obtain ⟨fx_q_4, fm_q_4, Rc_q_4, Rm_q_4, rfl, hc, hm⟩ := hI9
    have hP : va_P g.1 vwCl ([(x0, .inr (9, fx_q_4)), (m0, .inr (10, fm_q_4)), (aL g o0 1 fo)] ++ (Rc_q_4 ++ Rm_q_4)) H := hP
    have hD : va_D A ([(x0, .inr (9, fx_q_4)), (m0, .inr (10, fm_q_4)), (aL g o0 1 fo)] ++ (Rc_q_4 ++ Rm_q_4)) := hD
    refine lv_i2l (v := Int32.toInt64 r_1) hx hb dL_siege_7 rfl ?_
    refine he_last hx hb hK hP hD hS 2 rfl 0 (by decide) (by decide) (by decide) dL_siege_8 (fun H locs hP hD hS => ?_)
    have hP : va_P g.1 vwCl ([(x0, .inr (9, fx_q_4)), (m0, .inr (10, fm_q_4)), (aL g o0 1 (vp_updL fo 0 (Int32.toInt64 r_1)))] ++ (Rc_q_4 ++ Rm_q_4)) H := hP
    have hD : va_D A ([(x0, .inr (9, fx_q_4)), (m0, .inr (10, fm_q_4)), (aL g o0 1 (vp_updL fo 0 (Int32.toInt64 r_1)))] ++ (Rc_q_4 ++ Rm_q_4)) := hD
    refine lv_goto (tgt := 15) hx hb dL_siege_9 (by decide) ?_
    refine lv_iconst (v := 0) hx hb dL_siege_15 (by decide) ?_
    exact he_ri hQ hx hb hr hlk hP hD hS dL_siege_16 (Nat.le_of_ble_eq_true rfl) (Nat.le_of_ble_eq_true rfl) ([(x0, .inr (9, fx_q_4)), (m0, .inr (10, fm_q_4)), (aL g o0 1 (vp_updL fo 0 (Int32.toInt64 r_1)))] ++ (Rc_q_4 ++ Rm_q_4)) rfl ⟨(vp_updL fo 0 (Int32.toInt64 r_1)), ⟨_, _, _, _, rfl, hc, hm⟩, hcd.symm, fun _ => (by rw [show (vp_updL fo 0 (Int32.toInt64 r_1)) 0 = _ from vp_updL_s _ _ _]; exact (congrArg Int32.toInt64 hp4))⟩
  · obtain ⟨W8, hI8, h8⟩ := il_Ti (o0 := o0) (fo := fo) h9 hI9 hm
    refine he_xi (En := "java/lang/IllegalArgumentException") (wx := W8) (wc := ([(x0, .inr (9, fx)), (m0, .inr (10, fm)), (aL g o0 1 fo)] ++ (Rc ++ Rm))) (wr := []) (vx_runV (As := [.int x_]) (rest := [.int 0, .ref o0]) ⟨hx, hb, hml, hown, hts⟩ (h8 H.size) (cwV 1 hts gL_siege_X10_siege rfl rfl rfl (by decide +kernel) ⟨Nat.le_of_ble_eq_true rfl, Nat.le_of_ble_eq_true rfl⟩) (he_preV (wc := ([(x0, .inr (9, fx)), (m0, .inr (10, fm)), (aL g o0 1 fo)] ++ (Rc ++ Rm))) hK hP hD hS hA hE (List.range (([(x0, .inr (9, fx)), (m0, .inr (10, fm)), (aL g o0 1 fo)] ++ (Rc ++ Rm)) : va_W).length) (he_all _) (he_allnd _) 0 rfl rfl) rfl rfl hl.1 rfl (lv_room (Nat.le_of_ble_eq_true rfl)) dL_siege_4 ⟨(Nat.le_of_ble_eq_true rfl), (Nat.le_of_ble_eq_true rfl)⟩) hP hD hS hA (List.range (([(x0, .inr (9, fx)), (m0, .inr (10, fm)), (aL g o0 1 fo)] ++ (Rc ++ Rm)) : va_W).length) [] (he_all _) rfl rfl (fun _ h9 => absurd h9 List.not_mem_nil) (fun ce q9 H locs hP hD hS hce hcv hcl => ?_)
    obtain ⟨fx_q_5, fm_q_5, Rc_q_5, Rm_q_5, rfl, hc, hm⟩ := hI8
    have hP : va_P g.1 vwCl ([(x0, .inr (9, fx_q_5)), (m0, .inr (10, fm_q_5)), (aL g o0 1 fo)] ++ (Rc_q_5 ++ Rm_q_5)) H := hP
    have hD : va_D A ([(x0, .inr (9, fx_q_5)), (m0, .inr (10, fm_q_5)), (aL g o0 1 fo)] ++ (Rc_q_5 ++ Rm_q_5)) := hD
    refine vx_catch (name := "java/lang/IllegalArgumentException") (E := "java/lang/IllegalArgumentException") hown [] ⟨0, 9, 12, 13⟩ [] htab (fun z h9 => nomatch h9) (by decide) (by decide) cl13 (va_Nw.use rfl (hE.cast ("java/lang/IllegalArgumentException", "java/lang/IllegalArgumentException") (by decide))) hce hcv hcl ?_
    refine W.widen (k := 1) (n := 6) (Nat.le_of_ble_eq_true rfl) (Nat.le_of_ble_eq_true rfl) ?_
    refine lv_astore_n (lv' := [(3, .ref q9), (0, .ref x0), (1, .int x_), (2, .ref o0)]) hx hb dL_siege_12 rfl hl (by decide) rfl (fun ls hl => ?_)
    refine lv_iconst (v := 1) hx hb dL_siege_13 (by decide) ?_
    exact he_ri hQ hx hb hr hlk hP hD hS dL_siege_14 (Nat.le_of_ble_eq_true rfl) (Nat.le_of_ble_eq_true rfl) ([(x0, .inr (9, fx_q_5)), (m0, .inr (10, fm_q_5)), (aL g o0 1 fo)] ++ (Rc_q_5 ++ Rm_q_5)) rfl ⟨fo, ⟨_, _, _, _, rfl, hc, hm⟩, hcd.symm, fun h9 => absurd (hcd.symm.trans h9) (by decide)⟩
set_option maxHeartbeats 8000000 in
set_option maxRecDepth 100000 in
theorem w_contract (l : Launch) (hlt : l.stackTraces = false) (g : he_G) (x0 m0 o0 : Nat) (Sx Sm : AbS) (t : Int32) (fo : Nat → Int64) (W : va_W) (x_ : Int32) (hI : IL g x0 m0 o0 Sx Sm t fo W) : he_I l yL_contract wsL_contract 9 208 1 6 g [.ref x0, .int x_, .ref o0] W (fun (r : Int32) (W2 : va_W) => ∃ fo2 : Nat → Int64, IL g x0 m0 o0 (sp_contract Sx x_).2.2 Sm t fo2 W2 ∧ r = (sp_contract Sx x_).1 ∧ ((sp_contract Sx x_).1 = 0 → fo2 0 = Int32.toInt64 (sp_contract Sx x_).2.1)) (fun W2 => W2) := by
  obtain ⟨fx, fm, Rc, Rm, rfl, hc, hm⟩ := hI
  refine he_beginH (l := l) (g := g) (y := yL_contract) (wl := wsL_contract) (fr := 9) (lo := 208) (mc := 1) (ms := 6) (av := [.ref x0, .int x_, .ref o0]) (ws := [(x0, .inr (9, fx)), (m0, .inr (10, fm)), (aL g o0 1 fo)] ++ (Rc ++ Rm)) (cc := cL_contract) (maxL := 4) (ret := (some .int)) (hh := [(0, 9, 12, 13)]) (fun A => va_Qi (fun (r : Int32) (W2 : va_W) => ∃ fo2 : Nat → Int64, IL g x0 m0 o0 (sp_contract Sx x_).2.2 Sm t fo2 W2 ∧ r = (sp_contract Sx x_).1 ∧ ((sp_contract Sx x_).1 = 0 → fo2 0 = Int32.toInt64 (sp_contract Sx x_).2.1)) (fun u t => he_post g A ((fun (W2 : va_W) => W2) u) t) A) (by decide) rfl (Nat.le_of_ble_eq_true rfl) ?_
  intro p e s m args below meth c A ls H locs Q hQ htab hB
  obtain ⟨hx, hb, hr, hml, hown, hts, hlk, hin, hP, hK, hD, hS, hA, hE, hl⟩ := hB
  have hl : lv_has ls 4 [(0, .ref x0), (1, .int x_), (2, .ref o0)] := hl
  have cl13 := hts (.classLink RL 13 "java/lang/IllegalArgumentException") (by decide +kernel)
  refine lv_aload_n hx hb dL_contract_0 rfl (lv_at hl 2 rfl) ?_
  refine lv_iconst (v := 0) hx hb dL_contract_1 (by decide) ?_
  refine lv_aload_n hx hb dL_contract_2 rfl (lv_at hl 0 rfl) ?_
  refine lv_iload_n hx hb dL_contract_3 rfl (lv_at hl 1 rfl) ?_
  rcases k_contract l hlt g x0 Sx _ x_ hc with ⟨hcd, h9⟩ | ⟨hcd, W9, hI9, h9⟩
  · refine he_ci (wc := ([(x0, .inr (9, fx)), (m0, .inr (10, fm)), (aL g o0 1 fo)] ++ (Rc ++ Rm))) (wr := []) (va_runV (As := [.int x_]) (rest := [.int 0, .ref o0]) ⟨hx, hb, hml, hown, hts⟩ (il_cI h9 hm H.size) (cwV 1 hts gL_contract_X10_contract rfl rfl rfl (by decide +kernel) ⟨Nat.le_of_ble_eq_true rfl, Nat.le_of_ble_eq_true rfl⟩) (he_preV (wc := ([(x0, .inr (9, fx)), (m0, .inr (10, fm)), (aL g o0 1 fo)] ++ (Rc ++ Rm))) hK hP hD hS hA hE (List.range (([(x0, .inr (9, fx)), (m0, .inr (10, fm)), (aL g o0 1 fo)] ++ (Rc ++ Rm)) : va_W).length) (he_all _) (he_allnd _) 0 rfl rfl) rfl rfl hl.1 rfl (lv_room (Nat.le_of_ble_eq_true rfl)) dL_contract_4 ⟨(Nat.le_of_ble_eq_true rfl), (Nat.le_of_ble_eq_true rfl)⟩) hP hD hS hA (List.range (([(x0, .inr (9, fx)), (m0, .inr (10, fm)), (aL g o0 1 fo)] ++ (Rc ++ Rm)) : va_W).length) [] (he_all _) rfl rfl (fun _ h9 => absurd h9 List.not_mem_nil) (fun r_1 u_2 H locs hu_3 hP hD hS => ?_)
    obtain ⟨hI9, hp4⟩ := hu_3
    obtain ⟨fx_q_4, fm_q_4, Rc_q_4, Rm_q_4, rfl, hc, hm⟩ := hI9
    have hP : va_P g.1 vwCl ([(x0, .inr (9, fx_q_4)), (m0, .inr (10, fm_q_4)), (aL g o0 1 fo)] ++ (Rc_q_4 ++ Rm_q_4)) H := hP
    have hD : va_D A ([(x0, .inr (9, fx_q_4)), (m0, .inr (10, fm_q_4)), (aL g o0 1 fo)] ++ (Rc_q_4 ++ Rm_q_4)) := hD
    refine lv_i2l (v := Int32.toInt64 r_1) hx hb dL_contract_7 rfl ?_
    refine he_last hx hb hK hP hD hS 2 rfl 0 (by decide) (by decide) (by decide) dL_contract_8 (fun H locs hP hD hS => ?_)
    have hP : va_P g.1 vwCl ([(x0, .inr (9, fx_q_4)), (m0, .inr (10, fm_q_4)), (aL g o0 1 (vp_updL fo 0 (Int32.toInt64 r_1)))] ++ (Rc_q_4 ++ Rm_q_4)) H := hP
    have hD : va_D A ([(x0, .inr (9, fx_q_4)), (m0, .inr (10, fm_q_4)), (aL g o0 1 (vp_updL fo 0 (Int32.toInt64 r_1)))] ++ (Rc_q_4 ++ Rm_q_4)) := hD
    refine lv_goto (tgt := 15) hx hb dL_contract_9 (by decide) ?_
    refine lv_iconst (v := 0) hx hb dL_contract_15 (by decide) ?_
    exact he_ri hQ hx hb hr hlk hP hD hS dL_contract_16 (Nat.le_of_ble_eq_true rfl) (Nat.le_of_ble_eq_true rfl) ([(x0, .inr (9, fx_q_4)), (m0, .inr (10, fm_q_4)), (aL g o0 1 (vp_updL fo 0 (Int32.toInt64 r_1)))] ++ (Rc_q_4 ++ Rm_q_4)) rfl ⟨(vp_updL fo 0 (Int32.toInt64 r_1)), ⟨_, _, _, _, rfl, hc, hm⟩, hcd.symm, fun _ => (by rw [show (vp_updL fo 0 (Int32.toInt64 r_1)) 0 = _ from vp_updL_s _ _ _]; exact (congrArg Int32.toInt64 hp4))⟩
  · obtain ⟨W8, hI8, h8⟩ := il_Ti (o0 := o0) (fo := fo) h9 hI9 hm
    refine he_xi (En := "java/lang/IllegalArgumentException") (wx := W8) (wc := ([(x0, .inr (9, fx)), (m0, .inr (10, fm)), (aL g o0 1 fo)] ++ (Rc ++ Rm))) (wr := []) (vx_runV (As := [.int x_]) (rest := [.int 0, .ref o0]) ⟨hx, hb, hml, hown, hts⟩ (h8 H.size) (cwV 1 hts gL_contract_X10_contract rfl rfl rfl (by decide +kernel) ⟨Nat.le_of_ble_eq_true rfl, Nat.le_of_ble_eq_true rfl⟩) (he_preV (wc := ([(x0, .inr (9, fx)), (m0, .inr (10, fm)), (aL g o0 1 fo)] ++ (Rc ++ Rm))) hK hP hD hS hA hE (List.range (([(x0, .inr (9, fx)), (m0, .inr (10, fm)), (aL g o0 1 fo)] ++ (Rc ++ Rm)) : va_W).length) (he_all _) (he_allnd _) 0 rfl rfl) rfl rfl hl.1 rfl (lv_room (Nat.le_of_ble_eq_true rfl)) dL_contract_4 ⟨(Nat.le_of_ble_eq_true rfl), (Nat.le_of_ble_eq_true rfl)⟩) hP hD hS hA (List.range (([(x0, .inr (9, fx)), (m0, .inr (10, fm)), (aL g o0 1 fo)] ++ (Rc ++ Rm)) : va_W).length) [] (he_all _) rfl rfl (fun _ h9 => absurd h9 List.not_mem_nil) (fun ce q9 H locs hP hD hS hce hcv hcl => ?_)
    obtain ⟨fx_q_5, fm_q_5, Rc_q_5, Rm_q_5, rfl, hc, hm⟩ := hI8
    have hP : va_P g.1 vwCl ([(x0, .inr (9, fx_q_5)), (m0, .inr (10, fm_q_5)), (aL g o0 1 fo)] ++ (Rc_q_5 ++ Rm_q_5)) H := hP
    have hD : va_D A ([(x0, .inr (9, fx_q_5)), (m0, .inr (10, fm_q_5)), (aL g o0 1 fo)] ++ (Rc_q_5 ++ Rm_q_5)) := hD
    refine vx_catch (name := "java/lang/IllegalArgumentException") (E := "java/lang/IllegalArgumentException") hown [] ⟨0, 9, 12, 13⟩ [] htab (fun z h9 => nomatch h9) (by decide) (by decide) cl13 (va_Nw.use rfl (hE.cast ("java/lang/IllegalArgumentException", "java/lang/IllegalArgumentException") (by decide))) hce hcv hcl ?_
    refine W.widen (k := 1) (n := 6) (Nat.le_of_ble_eq_true rfl) (Nat.le_of_ble_eq_true rfl) ?_
    refine lv_astore_n (lv' := [(3, .ref q9), (0, .ref x0), (1, .int x_), (2, .ref o0)]) hx hb dL_contract_12 rfl hl (by decide) rfl (fun ls hl => ?_)
    refine lv_iconst (v := 1) hx hb dL_contract_13 (by decide) ?_
    exact he_ri hQ hx hb hr hlk hP hD hS dL_contract_14 (Nat.le_of_ble_eq_true rfl) (Nat.le_of_ble_eq_true rfl) ([(x0, .inr (9, fx_q_5)), (m0, .inr (10, fm_q_5)), (aL g o0 1 fo)] ++ (Rc_q_5 ++ Rm_q_5)) rfl ⟨fo, ⟨_, _, _, _, rfl, hc, hm⟩, hcd.symm, fun h9 => absurd (hcd.symm.trans h9) (by decide)⟩
set_option maxHeartbeats 8000000 in
set_option maxRecDepth 100000 in
theorem w_told (l : Launch) (hlt : l.stackTraces = false) (g : he_G) (x0 m0 o0 : Nat) (Sx Sm : AbS) (t : Int32) (fo : Nat → Int64) (W : va_W) (x_ : Int32) (hI : IL g x0 m0 o0 Sx Sm t fo W) : he_I l yL_told wsL_told 8 126 1 6 g [.ref x0, .int x_, .ref o0] W (fun (r : Int32) (W2 : va_W) => ∃ fo2 : Nat → Int64, IL g x0 m0 o0 (sp_told Sx x_).2.2 Sm t fo2 W2 ∧ r = (sp_told Sx x_).1 ∧ ((sp_told Sx x_).1 = 0 → fo2 0 = Int32.toInt64 (sp_told Sx x_).2.1)) (fun W2 => W2) := by
  obtain ⟨fx, fm, Rc, Rm, rfl, hc, hm⟩ := hI
  refine he_beginH (l := l) (g := g) (y := yL_told) (wl := wsL_told) (fr := 8) (lo := 126) (mc := 1) (ms := 6) (av := [.ref x0, .int x_, .ref o0]) (ws := [(x0, .inr (9, fx)), (m0, .inr (10, fm)), (aL g o0 1 fo)] ++ (Rc ++ Rm)) (cc := cL_told) (maxL := 4) (ret := (some .int)) (hh := [(0, 9, 12, 13)]) (fun A => va_Qi (fun (r : Int32) (W2 : va_W) => ∃ fo2 : Nat → Int64, IL g x0 m0 o0 (sp_told Sx x_).2.2 Sm t fo2 W2 ∧ r = (sp_told Sx x_).1 ∧ ((sp_told Sx x_).1 = 0 → fo2 0 = Int32.toInt64 (sp_told Sx x_).2.1)) (fun u t => he_post g A ((fun (W2 : va_W) => W2) u) t) A) (by decide) rfl (Nat.le_of_ble_eq_true rfl) ?_
  intro p e s m args below meth c A ls H locs Q hQ htab hB
  obtain ⟨hx, hb, hr, hml, hown, hts, hlk, hin, hP, hK, hD, hS, hA, hE, hl⟩ := hB
  have hl : lv_has ls 4 [(0, .ref x0), (1, .int x_), (2, .ref o0)] := hl
  have cl13 := hts (.classLink RL 13 "java/lang/IllegalArgumentException") (by decide +kernel)
  refine lv_aload_n hx hb dL_told_0 rfl (lv_at hl 2 rfl) ?_
  refine lv_iconst (v := 0) hx hb dL_told_1 (by decide) ?_
  refine lv_aload_n hx hb dL_told_2 rfl (lv_at hl 0 rfl) ?_
  refine lv_iload_n hx hb dL_told_3 rfl (lv_at hl 1 rfl) ?_
  rcases k_told l hlt g x0 Sx _ x_ hc with ⟨hcd, h9⟩ | ⟨hcd, W9, hI9, h9⟩
  · refine he_ci (wc := ([(x0, .inr (9, fx)), (m0, .inr (10, fm)), (aL g o0 1 fo)] ++ (Rc ++ Rm))) (wr := []) (va_runV (As := [.int x_]) (rest := [.int 0, .ref o0]) ⟨hx, hb, hml, hown, hts⟩ (il_cI h9 hm H.size) (cwV 1 hts gL_told_X10_told rfl rfl rfl (by decide +kernel) ⟨Nat.le_of_ble_eq_true rfl, Nat.le_of_ble_eq_true rfl⟩) (he_preV (wc := ([(x0, .inr (9, fx)), (m0, .inr (10, fm)), (aL g o0 1 fo)] ++ (Rc ++ Rm))) hK hP hD hS hA hE (List.range (([(x0, .inr (9, fx)), (m0, .inr (10, fm)), (aL g o0 1 fo)] ++ (Rc ++ Rm)) : va_W).length) (he_all _) (he_allnd _) 0 rfl rfl) rfl rfl hl.1 rfl (lv_room (Nat.le_of_ble_eq_true rfl)) dL_told_4 ⟨(Nat.le_of_ble_eq_true rfl), (Nat.le_of_ble_eq_true rfl)⟩) hP hD hS hA (List.range (([(x0, .inr (9, fx)), (m0, .inr (10, fm)), (aL g o0 1 fo)] ++ (Rc ++ Rm)) : va_W).length) [] (he_all _) rfl rfl (fun _ h9 => absurd h9 List.not_mem_nil) (fun r_1 u_2 H locs hu_3 hP hD hS => ?_)
    obtain ⟨hI9, hp4⟩ := hu_3
    obtain ⟨fx_q_4, fm_q_4, Rc_q_4, Rm_q_4, rfl, hc, hm⟩ := hI9
    have hP : va_P g.1 vwCl ([(x0, .inr (9, fx_q_4)), (m0, .inr (10, fm_q_4)), (aL g o0 1 fo)] ++ (Rc_q_4 ++ Rm_q_4)) H := hP
    have hD : va_D A ([(x0, .inr (9, fx_q_4)), (m0, .inr (10, fm_q_4)), (aL g o0 1 fo)] ++ (Rc_q_4 ++ Rm_q_4)) := hD
    refine lv_i2l (v := Int32.toInt64 r_1) hx hb dL_told_7 rfl ?_
    refine he_last hx hb hK hP hD hS 2 rfl 0 (by decide) (by decide) (by decide) dL_told_8 (fun H locs hP hD hS => ?_)
    have hP : va_P g.1 vwCl ([(x0, .inr (9, fx_q_4)), (m0, .inr (10, fm_q_4)), (aL g o0 1 (vp_updL fo 0 (Int32.toInt64 r_1)))] ++ (Rc_q_4 ++ Rm_q_4)) H := hP
    have hD : va_D A ([(x0, .inr (9, fx_q_4)), (m0, .inr (10, fm_q_4)), (aL g o0 1 (vp_updL fo 0 (Int32.toInt64 r_1)))] ++ (Rc_q_4 ++ Rm_q_4)) := hD
    refine lv_goto (tgt := 15) hx hb dL_told_9 (by decide) ?_
    refine lv_iconst (v := 0) hx hb dL_told_15 (by decide) ?_
    exact he_ri hQ hx hb hr hlk hP hD hS dL_told_16 (Nat.le_of_ble_eq_true rfl) (Nat.le_of_ble_eq_true rfl) ([(x0, .inr (9, fx_q_4)), (m0, .inr (10, fm_q_4)), (aL g o0 1 (vp_updL fo 0 (Int32.toInt64 r_1)))] ++ (Rc_q_4 ++ Rm_q_4)) rfl ⟨(vp_updL fo 0 (Int32.toInt64 r_1)), ⟨_, _, _, _, rfl, hc, hm⟩, hcd.symm, fun _ => (by rw [show (vp_updL fo 0 (Int32.toInt64 r_1)) 0 = _ from vp_updL_s _ _ _]; exact (congrArg Int32.toInt64 hp4))⟩
  · obtain ⟨W8, hI8, h8⟩ := il_Ti (o0 := o0) (fo := fo) h9 hI9 hm
    refine he_xi (En := "java/lang/IllegalArgumentException") (wx := W8) (wc := ([(x0, .inr (9, fx)), (m0, .inr (10, fm)), (aL g o0 1 fo)] ++ (Rc ++ Rm))) (wr := []) (vx_runV (As := [.int x_]) (rest := [.int 0, .ref o0]) ⟨hx, hb, hml, hown, hts⟩ (h8 H.size) (cwV 1 hts gL_told_X10_told rfl rfl rfl (by decide +kernel) ⟨Nat.le_of_ble_eq_true rfl, Nat.le_of_ble_eq_true rfl⟩) (he_preV (wc := ([(x0, .inr (9, fx)), (m0, .inr (10, fm)), (aL g o0 1 fo)] ++ (Rc ++ Rm))) hK hP hD hS hA hE (List.range (([(x0, .inr (9, fx)), (m0, .inr (10, fm)), (aL g o0 1 fo)] ++ (Rc ++ Rm)) : va_W).length) (he_all _) (he_allnd _) 0 rfl rfl) rfl rfl hl.1 rfl (lv_room (Nat.le_of_ble_eq_true rfl)) dL_told_4 ⟨(Nat.le_of_ble_eq_true rfl), (Nat.le_of_ble_eq_true rfl)⟩) hP hD hS hA (List.range (([(x0, .inr (9, fx)), (m0, .inr (10, fm)), (aL g o0 1 fo)] ++ (Rc ++ Rm)) : va_W).length) [] (he_all _) rfl rfl (fun _ h9 => absurd h9 List.not_mem_nil) (fun ce q9 H locs hP hD hS hce hcv hcl => ?_)
    obtain ⟨fx_q_5, fm_q_5, Rc_q_5, Rm_q_5, rfl, hc, hm⟩ := hI8
    have hP : va_P g.1 vwCl ([(x0, .inr (9, fx_q_5)), (m0, .inr (10, fm_q_5)), (aL g o0 1 fo)] ++ (Rc_q_5 ++ Rm_q_5)) H := hP
    have hD : va_D A ([(x0, .inr (9, fx_q_5)), (m0, .inr (10, fm_q_5)), (aL g o0 1 fo)] ++ (Rc_q_5 ++ Rm_q_5)) := hD
    refine vx_catch (name := "java/lang/IllegalArgumentException") (E := "java/lang/IllegalArgumentException") hown [] ⟨0, 9, 12, 13⟩ [] htab (fun z h9 => nomatch h9) (by decide) (by decide) cl13 (va_Nw.use rfl (hE.cast ("java/lang/IllegalArgumentException", "java/lang/IllegalArgumentException") (by decide))) hce hcv hcl ?_
    refine W.widen (k := 1) (n := 6) (Nat.le_of_ble_eq_true rfl) (Nat.le_of_ble_eq_true rfl) ?_
    refine lv_astore_n (lv' := [(3, .ref q9), (0, .ref x0), (1, .int x_), (2, .ref o0)]) hx hb dL_told_12 rfl hl (by decide) rfl (fun ls hl => ?_)
    refine lv_iconst (v := 1) hx hb dL_told_13 (by decide) ?_
    exact he_ri hQ hx hb hr hlk hP hD hS dL_told_14 (Nat.le_of_ble_eq_true rfl) (Nat.le_of_ble_eq_true rfl) ([(x0, .inr (9, fx_q_5)), (m0, .inr (10, fm_q_5)), (aL g o0 1 fo)] ++ (Rc_q_5 ++ Rm_q_5)) rfl ⟨fo, ⟨_, _, _, _, rfl, hc, hm⟩, hcd.symm, fun h9 => absurd (hcd.symm.trans h9) (by decide)⟩
set_option maxHeartbeats 8000000 in
set_option maxRecDepth 100000 in
theorem w_wall (l : Launch) (hlt : l.stackTraces = false) (g : he_G) (x0 m0 o0 : Nat) (Sx Sm : AbS) (t : Int32) (fo : Nat → Int64) (W : va_W) (x_ : Int32) (y_ : Int32) (hI : IL g x0 m0 o0 Sx Sm t fo W) : he_IN l yL_wall wsL_wall 8 125 1 6 g [.ref x0, .int x_, .int y_, .ref o0] W (fun (r : Int32) (W2 : va_W) => ∃ fo2 : Nat → Int64, IL g x0 m0 o0 (sp_wall Sx x_ y_).2.2 Sm t fo2 W2 ∧ r = (sp_wall Sx x_ y_).1 ∧ ((sp_wall Sx x_ y_).1 = 0 → fo2 0 = Int32.toInt64 (sp_wall Sx x_ y_).2.1)) (fun W2 => W2) := by
  obtain ⟨fx, fm, Rc, Rm, rfl, hc, hm⟩ := hI
  refine he_beginHN (l := l) (g := g) (y := yL_wall) (wl := wsL_wall) (fr := 8) (lo := 125) (mc := 1) (ms := 6) (av := [.ref x0, .int x_, .int y_, .ref o0]) (ws := [(x0, .inr (9, fx)), (m0, .inr (10, fm)), (aL g o0 1 fo)] ++ (Rc ++ Rm)) (cc := cL_wall) (maxL := 5) (ret := (some .int)) (hh := [(0, 10, 13, 25), (0, 10, 17, 13)]) (fun A => va_Qi (fun (r : Int32) (W2 : va_W) => ∃ fo2 : Nat → Int64, IL g x0 m0 o0 (sp_wall Sx x_ y_).2.2 Sm t fo2 W2 ∧ r = (sp_wall Sx x_ y_).1 ∧ ((sp_wall Sx x_ y_).1 = 0 → fo2 0 = Int32.toInt64 (sp_wall Sx x_ y_).2.1)) (fun u t => he_post g A ((fun (W2 : va_W) => W2) u) t) A) (by decide) rfl (Nat.le_of_ble_eq_true rfl) ?_
  intro p e s m args below meth c A ls H locs Q hQ htab hNc hB
  obtain ⟨hx, hb, hr, hml, hown, hts, hlk, hin, hP, hK, hD, hS, hA, hE, hl⟩ := hB
  have hl : lv_has ls 5 [(0, .ref x0), (1, .int x_), (2, .int y_), (3, .ref o0)] := hl
  have cl25 := hts (.classLink RL 25 "java/lang/IndexOutOfBoundsException") (by decide +kernel)
  have cl13 := hts (.classLink RL 13 "java/lang/IllegalArgumentException") (by decide +kernel)
  refine lv_aload_n hx hb dL_wall_0 rfl (lv_at hl 3 rfl) ?_
  refine lv_iconst (v := 0) hx hb dL_wall_1 (by decide) ?_
  refine lv_aload_n hx hb dL_wall_2 rfl (lv_at hl 0 rfl) ?_
  refine lv_iload_n hx hb dL_wall_3 rfl (lv_at hl 1 rfl) ?_
  refine lv_iload_n hx hb dL_wall_4 rfl (lv_at hl 2 rfl) ?_
  rcases k_wall l hlt g x0 Sx _ x_ y_ hc with ⟨hcd, h9⟩ | ⟨hcd, W9, hI9, h9⟩ | ⟨hcd, W9, hI9, h9⟩
  · refine he_ci (wc := ([(x0, .inr (9, fx)), (m0, .inr (10, fm)), (aL g o0 1 fo)] ++ (Rc ++ Rm))) (wr := []) (va_runV (As := [.int x_, .int y_]) (rest := [.int 0, .ref o0]) ⟨hx, hb, hml, hown, hts⟩ (il_cI h9 hm H.size) (cwV 2 hts gL_wall_X10_wall rfl rfl rfl (by decide +kernel) ⟨Nat.le_of_ble_eq_true rfl, Nat.le_of_ble_eq_true rfl⟩) (he_preV (wc := ([(x0, .inr (9, fx)), (m0, .inr (10, fm)), (aL g o0 1 fo)] ++ (Rc ++ Rm))) hK hP hD hS hA hE (List.range (([(x0, .inr (9, fx)), (m0, .inr (10, fm)), (aL g o0 1 fo)] ++ (Rc ++ Rm)) : va_W).length) (he_all _) (he_allnd _) 0 rfl rfl) rfl rfl hl.1 rfl (lv_room (Nat.le_of_ble_eq_true rfl)) dL_wall_5 ⟨(Nat.le_of_ble_eq_true rfl), (Nat.le_of_ble_eq_true rfl)⟩) hP hD hS hA (List.range (([(x0, .inr (9, fx)), (m0, .inr (10, fm)), (aL g o0 1 fo)] ++ (Rc ++ Rm)) : va_W).length) [] (he_all _) rfl rfl (fun _ h9 => absurd h9 List.not_mem_nil) (fun r_1 u_2 H locs hu_3 hP hD hS => ?_)
    obtain ⟨hI9, hp5⟩ := hu_3
    obtain ⟨fx_q_4, fm_q_4, Rc_q_4, Rm_q_4, rfl, hc, hm⟩ := hI9
    have hP : va_P g.1 vwCl ([(x0, .inr (9, fx_q_4)), (m0, .inr (10, fm_q_4)), (aL g o0 1 fo)] ++ (Rc_q_4 ++ Rm_q_4)) H := hP
    have hD : va_D A ([(x0, .inr (9, fx_q_4)), (m0, .inr (10, fm_q_4)), (aL g o0 1 fo)] ++ (Rc_q_4 ++ Rm_q_4)) := hD
    refine lv_i2l (v := Int32.toInt64 r_1) hx hb dL_wall_8 rfl ?_
    refine he_last hx hb hK hP hD hS 2 rfl 0 (by decide) (by decide) (by decide) dL_wall_9 (fun H locs hP hD hS => ?_)
    have hP : va_P g.1 vwCl ([(x0, .inr (9, fx_q_4)), (m0, .inr (10, fm_q_4)), (aL g o0 1 (vp_updL fo 0 (Int32.toInt64 r_1)))] ++ (Rc_q_4 ++ Rm_q_4)) H := hP
    have hD : va_D A ([(x0, .inr (9, fx_q_4)), (m0, .inr (10, fm_q_4)), (aL g o0 1 (vp_updL fo 0 (Int32.toInt64 r_1)))] ++ (Rc_q_4 ++ Rm_q_4)) := hD
    refine lv_goto (tgt := 21) hx hb dL_wall_10 (by decide) ?_
    refine lv_iconst (v := 0) hx hb dL_wall_21 (by decide) ?_
    exact he_ri hQ hx hb hr hlk hP hD hS dL_wall_22 (Nat.le_of_ble_eq_true rfl) (Nat.le_of_ble_eq_true rfl) ([(x0, .inr (9, fx_q_4)), (m0, .inr (10, fm_q_4)), (aL g o0 1 (vp_updL fo 0 (Int32.toInt64 r_1)))] ++ (Rc_q_4 ++ Rm_q_4)) rfl ⟨(vp_updL fo 0 (Int32.toInt64 r_1)), ⟨_, _, _, _, rfl, hc, hm⟩, hcd.symm, fun _ => (by rw [show (vp_updL fo 0 (Int32.toInt64 r_1)) 0 = _ from vp_updL_s _ _ _]; exact (congrArg Int32.toInt64 hp5))⟩
  · obtain ⟨W8, hI8, h8⟩ := il_Ti (o0 := o0) (fo := fo) h9 hI9 hm
    refine he_xi (En := "java/lang/IndexOutOfBoundsException") (wx := W8) (wc := ([(x0, .inr (9, fx)), (m0, .inr (10, fm)), (aL g o0 1 fo)] ++ (Rc ++ Rm))) (wr := []) (vx_runV (As := [.int x_, .int y_]) (rest := [.int 0, .ref o0]) ⟨hx, hb, hml, hown, hts⟩ (h8 H.size) (cwV 2 hts gL_wall_X10_wall rfl rfl rfl (by decide +kernel) ⟨Nat.le_of_ble_eq_true rfl, Nat.le_of_ble_eq_true rfl⟩) (he_preV (wc := ([(x0, .inr (9, fx)), (m0, .inr (10, fm)), (aL g o0 1 fo)] ++ (Rc ++ Rm))) hK hP hD hS hA hE (List.range (([(x0, .inr (9, fx)), (m0, .inr (10, fm)), (aL g o0 1 fo)] ++ (Rc ++ Rm)) : va_W).length) (he_all _) (he_allnd _) 0 rfl rfl) rfl rfl hl.1 rfl (lv_room (Nat.le_of_ble_eq_true rfl)) dL_wall_5 ⟨(Nat.le_of_ble_eq_true rfl), (Nat.le_of_ble_eq_true rfl)⟩) hP hD hS hA (List.range (([(x0, .inr (9, fx)), (m0, .inr (10, fm)), (aL g o0 1 fo)] ++ (Rc ++ Rm)) : va_W).length) [] (he_all _) rfl rfl (fun _ h9 => absurd h9 List.not_mem_nil) (fun ce q9 H locs hP hD hS hce hcv hcl => ?_)
    obtain ⟨fx_q_5, fm_q_5, Rc_q_5, Rm_q_5, rfl, hc, hm⟩ := hI8
    have hP : va_P g.1 vwCl ([(x0, .inr (9, fx_q_5)), (m0, .inr (10, fm_q_5)), (aL g o0 1 fo)] ++ (Rc_q_5 ++ Rm_q_5)) H := hP
    have hD : va_D A ([(x0, .inr (9, fx_q_5)), (m0, .inr (10, fm_q_5)), (aL g o0 1 fo)] ++ (Rc_q_5 ++ Rm_q_5)) := hD
    refine vx_catch (name := "java/lang/IndexOutOfBoundsException") (E := "java/lang/IndexOutOfBoundsException") hown [] ⟨0, 10, 13, 25⟩ [⟨0, 10, 17, 13⟩] htab (fun z h9 => nomatch h9) (by decide) (by decide) cl25 (va_Nw.use rfl (hE.cast ("java/lang/IndexOutOfBoundsException", "java/lang/IndexOutOfBoundsException") (by decide))) hce hcv hcl ?_
    refine W.widen (k := 1) (n := 6) (Nat.le_of_ble_eq_true rfl) (Nat.le_of_ble_eq_true rfl) ?_
    refine lv_astore (lv' := [(4, .ref q9), (0, .ref x0), (1, .int x_), (2, .int y_), (3, .ref o0)]) hx hb dL_wall_13 hl (by decide) rfl (fun ls hl => ?_)
    refine lv_iconst (v := 1) hx hb dL_wall_15 (by decide) ?_
    exact he_ri hQ hx hb hr hlk hP hD hS dL_wall_16 (Nat.le_of_ble_eq_true rfl) (Nat.le_of_ble_eq_true rfl) ([(x0, .inr (9, fx_q_5)), (m0, .inr (10, fm_q_5)), (aL g o0 1 fo)] ++ (Rc_q_5 ++ Rm_q_5)) rfl ⟨fo, ⟨_, _, _, _, rfl, hc, hm⟩, hcd.symm, fun h9 => absurd (hcd.symm.trans h9) (by decide)⟩
  · obtain ⟨W8, hI8, h8⟩ := il_Ti (o0 := o0) (fo := fo) h9 hI9 hm
    refine he_xi (En := "java/lang/IllegalArgumentException") (wx := W8) (wc := ([(x0, .inr (9, fx)), (m0, .inr (10, fm)), (aL g o0 1 fo)] ++ (Rc ++ Rm))) (wr := []) (vx_runV (As := [.int x_, .int y_]) (rest := [.int 0, .ref o0]) ⟨hx, hb, hml, hown, hts⟩ (h8 H.size) (cwV 2 hts gL_wall_X10_wall rfl rfl rfl (by decide +kernel) ⟨Nat.le_of_ble_eq_true rfl, Nat.le_of_ble_eq_true rfl⟩) (he_preV (wc := ([(x0, .inr (9, fx)), (m0, .inr (10, fm)), (aL g o0 1 fo)] ++ (Rc ++ Rm))) hK hP hD hS hA hE (List.range (([(x0, .inr (9, fx)), (m0, .inr (10, fm)), (aL g o0 1 fo)] ++ (Rc ++ Rm)) : va_W).length) (he_all _) (he_allnd _) 0 rfl rfl) rfl rfl hl.1 rfl (lv_room (Nat.le_of_ble_eq_true rfl)) dL_wall_5 ⟨(Nat.le_of_ble_eq_true rfl), (Nat.le_of_ble_eq_true rfl)⟩) hP hD hS hA (List.range (([(x0, .inr (9, fx)), (m0, .inr (10, fm)), (aL g o0 1 fo)] ++ (Rc ++ Rm)) : va_W).length) [] (he_all _) rfl rfl (fun _ h9 => absurd h9 List.not_mem_nil) (fun ce q9 H locs hP hD hS hce hcv hcl => ?_)
    obtain ⟨fx_q_6, fm_q_6, Rc_q_6, Rm_q_6, rfl, hc, hm⟩ := hI8
    have hP : va_P g.1 vwCl ([(x0, .inr (9, fx_q_6)), (m0, .inr (10, fm_q_6)), (aL g o0 1 fo)] ++ (Rc_q_6 ++ Rm_q_6)) H := hP
    have hD : va_D A ([(x0, .inr (9, fx_q_6)), (m0, .inr (10, fm_q_6)), (aL g o0 1 fo)] ++ (Rc_q_6 ++ Rm_q_6)) := hD
    refine vx_catch (name := "java/lang/IllegalArgumentException") (E := "java/lang/IllegalArgumentException") hown [⟨0, 10, 13, 25⟩] ⟨0, 10, 17, 13⟩ [] htab (fun z h9 => by obtain rfl := List.mem_singleton.mp h9; exact Or.inr ⟨by decide, "java/lang/IndexOutOfBoundsException", cl25, hNc⟩) (by decide) (by decide) cl13 (va_Nw.use rfl (hE.cast ("java/lang/IllegalArgumentException", "java/lang/IllegalArgumentException") (by decide))) hce hcv hcl ?_
    refine W.widen (k := 1) (n := 6) (Nat.le_of_ble_eq_true rfl) (Nat.le_of_ble_eq_true rfl) ?_
    refine lv_astore (lv' := [(4, .ref q9), (0, .ref x0), (1, .int x_), (2, .int y_), (3, .ref o0)]) hx hb dL_wall_17 hl (by decide) rfl (fun ls hl => ?_)
    refine lv_iconst (v := 2) hx hb dL_wall_19 (by decide) ?_
    exact he_ri hQ hx hb hr hlk hP hD hS dL_wall_20 (Nat.le_of_ble_eq_true rfl) (Nat.le_of_ble_eq_true rfl) ([(x0, .inr (9, fx_q_6)), (m0, .inr (10, fm_q_6)), (aL g o0 1 fo)] ++ (Rc_q_6 ++ Rm_q_6)) rfl ⟨fo, ⟨_, _, _, _, rfl, hc, hm⟩, hcd.symm, fun h9 => absurd (hcd.symm.trans h9) (by decide)⟩
set_option maxHeartbeats 8000000 in
set_option maxRecDepth 100000 in
theorem w_rule (l : Launch) (hlt : l.stackTraces = false) (g : he_G) (x0 m0 o0 : Nat) (Sx Sm : AbS) (t : Int32) (fo : Nat → Int64) (W : va_W) (x_ : Int32) (y_ : Int32) (hI : IL g x0 m0 o0 Sx Sm t fo W) : he_I l yL_rule wsL_rule 8 125 1 6 g [.ref x0, .int x_, .int y_, .ref o0] W (fun (r : Int32) (W2 : va_W) => ∃ fo2 : Nat → Int64, IL g x0 m0 o0 (sp_rule Sx x_ y_).2.2 Sm t fo2 W2 ∧ r = (sp_rule Sx x_ y_).1 ∧ ((sp_rule Sx x_ y_).1 = 0 → fo2 0 = Int32.toInt64 (sp_rule Sx x_ y_).2.1)) (fun W2 => W2) := by
  obtain ⟨fx, fm, Rc, Rm, rfl, hc, hm⟩ := hI
  refine he_beginH (l := l) (g := g) (y := yL_rule) (wl := wsL_rule) (fr := 8) (lo := 125) (mc := 1) (ms := 6) (av := [.ref x0, .int x_, .int y_, .ref o0]) (ws := [(x0, .inr (9, fx)), (m0, .inr (10, fm)), (aL g o0 1 fo)] ++ (Rc ++ Rm)) (cc := cL_rule) (maxL := 5) (ret := (some .int)) (hh := [(0, 10, 13, 30), (0, 10, 17, 13)]) (fun A => va_Qi (fun (r : Int32) (W2 : va_W) => ∃ fo2 : Nat → Int64, IL g x0 m0 o0 (sp_rule Sx x_ y_).2.2 Sm t fo2 W2 ∧ r = (sp_rule Sx x_ y_).1 ∧ ((sp_rule Sx x_ y_).1 = 0 → fo2 0 = Int32.toInt64 (sp_rule Sx x_ y_).2.1)) (fun u t => he_post g A ((fun (W2 : va_W) => W2) u) t) A) (by decide) rfl (Nat.le_of_ble_eq_true rfl) ?_
  intro p e s m args below meth c A ls H locs Q hQ htab hB
  obtain ⟨hx, hb, hr, hml, hown, hts, hlk, hin, hP, hK, hD, hS, hA, hE, hl⟩ := hB
  have hl : lv_has ls 5 [(0, .ref x0), (1, .int x_), (2, .int y_), (3, .ref o0)] := hl
  have cl30 := hts (.classLink RL 30 "java/util/NoSuchElementException") (by decide +kernel)
  have cl13 := hts (.classLink RL 13 "java/lang/IllegalArgumentException") (by decide +kernel)
  refine lv_aload_n hx hb dL_rule_0 rfl (lv_at hl 3 rfl) ?_
  refine lv_iconst (v := 0) hx hb dL_rule_1 (by decide) ?_
  refine lv_aload_n hx hb dL_rule_2 rfl (lv_at hl 0 rfl) ?_
  refine lv_iload_n hx hb dL_rule_3 rfl (lv_at hl 1 rfl) ?_
  refine lv_iload_n hx hb dL_rule_4 rfl (lv_at hl 2 rfl) ?_
  rcases k_rule l hlt g x0 Sx _ x_ y_ hc with ⟨hcd, h9⟩ | ⟨hcd, W9, hI9, h9⟩ | ⟨hcd, W9, hI9, h9⟩
  · refine he_ci (wc := ([(x0, .inr (9, fx)), (m0, .inr (10, fm)), (aL g o0 1 fo)] ++ (Rc ++ Rm))) (wr := []) (va_runV (As := [.int x_, .int y_]) (rest := [.int 0, .ref o0]) ⟨hx, hb, hml, hown, hts⟩ (il_cI h9 hm H.size) (cwV 2 hts gL_rule_X10_rule rfl rfl rfl (by decide +kernel) ⟨Nat.le_of_ble_eq_true rfl, Nat.le_of_ble_eq_true rfl⟩) (he_preV (wc := ([(x0, .inr (9, fx)), (m0, .inr (10, fm)), (aL g o0 1 fo)] ++ (Rc ++ Rm))) hK hP hD hS hA hE (List.range (([(x0, .inr (9, fx)), (m0, .inr (10, fm)), (aL g o0 1 fo)] ++ (Rc ++ Rm)) : va_W).length) (he_all _) (he_allnd _) 0 rfl rfl) rfl rfl hl.1 rfl (lv_room (Nat.le_of_ble_eq_true rfl)) dL_rule_5 ⟨(Nat.le_of_ble_eq_true rfl), (Nat.le_of_ble_eq_true rfl)⟩) hP hD hS hA (List.range (([(x0, .inr (9, fx)), (m0, .inr (10, fm)), (aL g o0 1 fo)] ++ (Rc ++ Rm)) : va_W).length) [] (he_all _) rfl rfl (fun _ h9 => absurd h9 List.not_mem_nil) (fun r_1 u_2 H locs hu_3 hP hD hS => ?_)
    obtain ⟨hI9, hp5⟩ := hu_3
    obtain ⟨fx_q_4, fm_q_4, Rc_q_4, Rm_q_4, rfl, hc, hm⟩ := hI9
    have hP : va_P g.1 vwCl ([(x0, .inr (9, fx_q_4)), (m0, .inr (10, fm_q_4)), (aL g o0 1 fo)] ++ (Rc_q_4 ++ Rm_q_4)) H := hP
    have hD : va_D A ([(x0, .inr (9, fx_q_4)), (m0, .inr (10, fm_q_4)), (aL g o0 1 fo)] ++ (Rc_q_4 ++ Rm_q_4)) := hD
    refine lv_i2l (v := Int32.toInt64 r_1) hx hb dL_rule_8 rfl ?_
    refine he_last hx hb hK hP hD hS 2 rfl 0 (by decide) (by decide) (by decide) dL_rule_9 (fun H locs hP hD hS => ?_)
    have hP : va_P g.1 vwCl ([(x0, .inr (9, fx_q_4)), (m0, .inr (10, fm_q_4)), (aL g o0 1 (vp_updL fo 0 (Int32.toInt64 r_1)))] ++ (Rc_q_4 ++ Rm_q_4)) H := hP
    have hD : va_D A ([(x0, .inr (9, fx_q_4)), (m0, .inr (10, fm_q_4)), (aL g o0 1 (vp_updL fo 0 (Int32.toInt64 r_1)))] ++ (Rc_q_4 ++ Rm_q_4)) := hD
    refine lv_goto (tgt := 21) hx hb dL_rule_10 (by decide) ?_
    refine lv_iconst (v := 0) hx hb dL_rule_21 (by decide) ?_
    exact he_ri hQ hx hb hr hlk hP hD hS dL_rule_22 (Nat.le_of_ble_eq_true rfl) (Nat.le_of_ble_eq_true rfl) ([(x0, .inr (9, fx_q_4)), (m0, .inr (10, fm_q_4)), (aL g o0 1 (vp_updL fo 0 (Int32.toInt64 r_1)))] ++ (Rc_q_4 ++ Rm_q_4)) rfl ⟨(vp_updL fo 0 (Int32.toInt64 r_1)), ⟨_, _, _, _, rfl, hc, hm⟩, hcd.symm, fun _ => (by rw [show (vp_updL fo 0 (Int32.toInt64 r_1)) 0 = _ from vp_updL_s _ _ _]; exact (congrArg Int32.toInt64 hp5))⟩
  · obtain ⟨W8, hI8, h8⟩ := il_Ti (o0 := o0) (fo := fo) h9 hI9 hm
    refine he_xi (En := "java/util/NoSuchElementException") (wx := W8) (wc := ([(x0, .inr (9, fx)), (m0, .inr (10, fm)), (aL g o0 1 fo)] ++ (Rc ++ Rm))) (wr := []) (vx_runV (As := [.int x_, .int y_]) (rest := [.int 0, .ref o0]) ⟨hx, hb, hml, hown, hts⟩ (h8 H.size) (cwV 2 hts gL_rule_X10_rule rfl rfl rfl (by decide +kernel) ⟨Nat.le_of_ble_eq_true rfl, Nat.le_of_ble_eq_true rfl⟩) (he_preV (wc := ([(x0, .inr (9, fx)), (m0, .inr (10, fm)), (aL g o0 1 fo)] ++ (Rc ++ Rm))) hK hP hD hS hA hE (List.range (([(x0, .inr (9, fx)), (m0, .inr (10, fm)), (aL g o0 1 fo)] ++ (Rc ++ Rm)) : va_W).length) (he_all _) (he_allnd _) 0 rfl rfl) rfl rfl hl.1 rfl (lv_room (Nat.le_of_ble_eq_true rfl)) dL_rule_5 ⟨(Nat.le_of_ble_eq_true rfl), (Nat.le_of_ble_eq_true rfl)⟩) hP hD hS hA (List.range (([(x0, .inr (9, fx)), (m0, .inr (10, fm)), (aL g o0 1 fo)] ++ (Rc ++ Rm)) : va_W).length) [] (he_all _) rfl rfl (fun _ h9 => absurd h9 List.not_mem_nil) (fun ce q9 H locs hP hD hS hce hcv hcl => ?_)
    obtain ⟨fx_q_5, fm_q_5, Rc_q_5, Rm_q_5, rfl, hc, hm⟩ := hI8
    have hP : va_P g.1 vwCl ([(x0, .inr (9, fx_q_5)), (m0, .inr (10, fm_q_5)), (aL g o0 1 fo)] ++ (Rc_q_5 ++ Rm_q_5)) H := hP
    have hD : va_D A ([(x0, .inr (9, fx_q_5)), (m0, .inr (10, fm_q_5)), (aL g o0 1 fo)] ++ (Rc_q_5 ++ Rm_q_5)) := hD
    refine vx_catch (name := "java/util/NoSuchElementException") (E := "java/util/NoSuchElementException") hown [] ⟨0, 10, 13, 30⟩ [⟨0, 10, 17, 13⟩] htab (fun z h9 => nomatch h9) (by decide) (by decide) cl30 (va_Nw.use rfl (hE.cast ("java/util/NoSuchElementException", "java/util/NoSuchElementException") (by decide))) hce hcv hcl ?_
    refine W.widen (k := 1) (n := 6) (Nat.le_of_ble_eq_true rfl) (Nat.le_of_ble_eq_true rfl) ?_
    refine lv_astore (lv' := [(4, .ref q9), (0, .ref x0), (1, .int x_), (2, .int y_), (3, .ref o0)]) hx hb dL_rule_13 hl (by decide) rfl (fun ls hl => ?_)
    refine lv_iconst (v := 1) hx hb dL_rule_15 (by decide) ?_
    exact he_ri hQ hx hb hr hlk hP hD hS dL_rule_16 (Nat.le_of_ble_eq_true rfl) (Nat.le_of_ble_eq_true rfl) ([(x0, .inr (9, fx_q_5)), (m0, .inr (10, fm_q_5)), (aL g o0 1 fo)] ++ (Rc_q_5 ++ Rm_q_5)) rfl ⟨fo, ⟨_, _, _, _, rfl, hc, hm⟩, hcd.symm, fun h9 => absurd (hcd.symm.trans h9) (by decide)⟩
  · obtain ⟨W8, hI8, h8⟩ := il_Ti (o0 := o0) (fo := fo) h9 hI9 hm
    refine he_xi (En := "java/lang/IllegalArgumentException") (wx := W8) (wc := ([(x0, .inr (9, fx)), (m0, .inr (10, fm)), (aL g o0 1 fo)] ++ (Rc ++ Rm))) (wr := []) (vx_runV (As := [.int x_, .int y_]) (rest := [.int 0, .ref o0]) ⟨hx, hb, hml, hown, hts⟩ (h8 H.size) (cwV 2 hts gL_rule_X10_rule rfl rfl rfl (by decide +kernel) ⟨Nat.le_of_ble_eq_true rfl, Nat.le_of_ble_eq_true rfl⟩) (he_preV (wc := ([(x0, .inr (9, fx)), (m0, .inr (10, fm)), (aL g o0 1 fo)] ++ (Rc ++ Rm))) hK hP hD hS hA hE (List.range (([(x0, .inr (9, fx)), (m0, .inr (10, fm)), (aL g o0 1 fo)] ++ (Rc ++ Rm)) : va_W).length) (he_all _) (he_allnd _) 0 rfl rfl) rfl rfl hl.1 rfl (lv_room (Nat.le_of_ble_eq_true rfl)) dL_rule_5 ⟨(Nat.le_of_ble_eq_true rfl), (Nat.le_of_ble_eq_true rfl)⟩) hP hD hS hA (List.range (([(x0, .inr (9, fx)), (m0, .inr (10, fm)), (aL g o0 1 fo)] ++ (Rc ++ Rm)) : va_W).length) [] (he_all _) rfl rfl (fun _ h9 => absurd h9 List.not_mem_nil) (fun ce q9 H locs hP hD hS hce hcv hcl => ?_)
    obtain ⟨fx_q_6, fm_q_6, Rc_q_6, Rm_q_6, rfl, hc, hm⟩ := hI8
    have hP : va_P g.1 vwCl ([(x0, .inr (9, fx_q_6)), (m0, .inr (10, fm_q_6)), (aL g o0 1 fo)] ++ (Rc_q_6 ++ Rm_q_6)) H := hP
    have hD : va_D A ([(x0, .inr (9, fx_q_6)), (m0, .inr (10, fm_q_6)), (aL g o0 1 fo)] ++ (Rc_q_6 ++ Rm_q_6)) := hD
    refine vx_catch (name := "java/lang/IllegalArgumentException") (E := "java/lang/IllegalArgumentException") hown [⟨0, 10, 13, 30⟩] ⟨0, 10, 17, 13⟩ [] htab (fun z h9 => by obtain rfl := List.mem_singleton.mp h9; exact Or.inr ⟨by decide, "java/util/NoSuchElementException", cl30, hE.nc⟩) (by decide) (by decide) cl13 (va_Nw.use rfl (hE.cast ("java/lang/IllegalArgumentException", "java/lang/IllegalArgumentException") (by decide))) hce hcv hcl ?_
    refine W.widen (k := 1) (n := 6) (Nat.le_of_ble_eq_true rfl) (Nat.le_of_ble_eq_true rfl) ?_
    refine lv_astore (lv' := [(4, .ref q9), (0, .ref x0), (1, .int x_), (2, .int y_), (3, .ref o0)]) hx hb dL_rule_17 hl (by decide) rfl (fun ls hl => ?_)
    refine lv_iconst (v := 2) hx hb dL_rule_19 (by decide) ?_
    exact he_ri hQ hx hb hr hlk hP hD hS dL_rule_20 (Nat.le_of_ble_eq_true rfl) (Nat.le_of_ble_eq_true rfl) ([(x0, .inr (9, fx_q_6)), (m0, .inr (10, fm_q_6)), (aL g o0 1 fo)] ++ (Rc_q_6 ++ Rm_q_6)) rfl ⟨fo, ⟨_, _, _, _, rfl, hc, hm⟩, hcd.symm, fun h9 => absurd (hcd.symm.trans h9) (by decide)⟩
set_option maxHeartbeats 8000000 in
set_option maxRecDepth 100000 in
theorem w_wants (l : Launch) (hlt : l.stackTraces = false) (g : he_G) (x0 m0 o0 : Nat) (Sx Sm : AbS) (t : Int32) (fo : Nat → Int64) (W : va_W) (x_ : Int32) (y_ : Int32) (hI : IL g x0 m0 o0 Sx Sm t fo W) : he_I l yL_wants wsL_wants 8 125 1 6 g [.ref x0, .int x_, .int y_, .ref o0] W (fun (r : Int32) (W2 : va_W) => ∃ fo2 : Nat → Int64, IL g x0 m0 o0 (sp_wants Sx x_ y_).2.2 Sm t fo2 W2 ∧ r = (sp_wants Sx x_ y_).1 ∧ ((sp_wants Sx x_ y_).1 = 0 → fo2 0 = Int32.toInt64 (sp_wants Sx x_ y_).2.1)) (fun W2 => W2) := by
  obtain ⟨fx, fm, Rc, Rm, rfl, hc, hm⟩ := hI
  refine he_beginH (l := l) (g := g) (y := yL_wants) (wl := wsL_wants) (fr := 8) (lo := 125) (mc := 1) (ms := 6) (av := [.ref x0, .int x_, .int y_, .ref o0]) (ws := [(x0, .inr (9, fx)), (m0, .inr (10, fm)), (aL g o0 1 fo)] ++ (Rc ++ Rm)) (cc := cL_wants) (maxL := 5) (ret := (some .int)) (hh := [(0, 10, 13, 13)]) (fun A => va_Qi (fun (r : Int32) (W2 : va_W) => ∃ fo2 : Nat → Int64, IL g x0 m0 o0 (sp_wants Sx x_ y_).2.2 Sm t fo2 W2 ∧ r = (sp_wants Sx x_ y_).1 ∧ ((sp_wants Sx x_ y_).1 = 0 → fo2 0 = Int32.toInt64 (sp_wants Sx x_ y_).2.1)) (fun u t => he_post g A ((fun (W2 : va_W) => W2) u) t) A) (by decide) rfl (Nat.le_of_ble_eq_true rfl) ?_
  intro p e s m args below meth c A ls H locs Q hQ htab hB
  obtain ⟨hx, hb, hr, hml, hown, hts, hlk, hin, hP, hK, hD, hS, hA, hE, hl⟩ := hB
  have hl : lv_has ls 5 [(0, .ref x0), (1, .int x_), (2, .int y_), (3, .ref o0)] := hl
  have cl13 := hts (.classLink RL 13 "java/lang/IllegalArgumentException") (by decide +kernel)
  refine lv_aload_n hx hb dL_wants_0 rfl (lv_at hl 3 rfl) ?_
  refine lv_iconst (v := 0) hx hb dL_wants_1 (by decide) ?_
  refine lv_aload_n hx hb dL_wants_2 rfl (lv_at hl 0 rfl) ?_
  refine lv_iload_n hx hb dL_wants_3 rfl (lv_at hl 1 rfl) ?_
  refine lv_iload_n hx hb dL_wants_4 rfl (lv_at hl 2 rfl) ?_
  rcases k_wants l hlt g x0 Sx _ x_ y_ hc with ⟨hcd, h9⟩ | ⟨hcd, W9, hI9, h9⟩
  · refine he_ci (wc := ([(x0, .inr (9, fx)), (m0, .inr (10, fm)), (aL g o0 1 fo)] ++ (Rc ++ Rm))) (wr := []) (va_runV (As := [.int x_, .int y_]) (rest := [.int 0, .ref o0]) ⟨hx, hb, hml, hown, hts⟩ (il_cI h9 hm H.size) (cwV 2 hts gL_wants_X10_wants rfl rfl rfl (by decide +kernel) ⟨Nat.le_of_ble_eq_true rfl, Nat.le_of_ble_eq_true rfl⟩) (he_preV (wc := ([(x0, .inr (9, fx)), (m0, .inr (10, fm)), (aL g o0 1 fo)] ++ (Rc ++ Rm))) hK hP hD hS hA hE (List.range (([(x0, .inr (9, fx)), (m0, .inr (10, fm)), (aL g o0 1 fo)] ++ (Rc ++ Rm)) : va_W).length) (he_all _) (he_allnd _) 0 rfl rfl) rfl rfl hl.1 rfl (lv_room (Nat.le_of_ble_eq_true rfl)) dL_wants_5 ⟨(Nat.le_of_ble_eq_true rfl), (Nat.le_of_ble_eq_true rfl)⟩) hP hD hS hA (List.range (([(x0, .inr (9, fx)), (m0, .inr (10, fm)), (aL g o0 1 fo)] ++ (Rc ++ Rm)) : va_W).length) [] (he_all _) rfl rfl (fun _ h9 => absurd h9 List.not_mem_nil) (fun r_1 u_2 H locs hu_3 hP hD hS => ?_)
    obtain ⟨hI9, hp5⟩ := hu_3
    obtain ⟨fx_q_4, fm_q_4, Rc_q_4, Rm_q_4, rfl, hc, hm⟩ := hI9
    have hP : va_P g.1 vwCl ([(x0, .inr (9, fx_q_4)), (m0, .inr (10, fm_q_4)), (aL g o0 1 fo)] ++ (Rc_q_4 ++ Rm_q_4)) H := hP
    have hD : va_D A ([(x0, .inr (9, fx_q_4)), (m0, .inr (10, fm_q_4)), (aL g o0 1 fo)] ++ (Rc_q_4 ++ Rm_q_4)) := hD
    refine lv_i2l (v := Int32.toInt64 r_1) hx hb dL_wants_8 rfl ?_
    refine he_last hx hb hK hP hD hS 2 rfl 0 (by decide) (by decide) (by decide) dL_wants_9 (fun H locs hP hD hS => ?_)
    have hP : va_P g.1 vwCl ([(x0, .inr (9, fx_q_4)), (m0, .inr (10, fm_q_4)), (aL g o0 1 (vp_updL fo 0 (Int32.toInt64 r_1)))] ++ (Rc_q_4 ++ Rm_q_4)) H := hP
    have hD : va_D A ([(x0, .inr (9, fx_q_4)), (m0, .inr (10, fm_q_4)), (aL g o0 1 (vp_updL fo 0 (Int32.toInt64 r_1)))] ++ (Rc_q_4 ++ Rm_q_4)) := hD
    refine lv_goto (tgt := 17) hx hb dL_wants_10 (by decide) ?_
    refine lv_iconst (v := 0) hx hb dL_wants_17 (by decide) ?_
    exact he_ri hQ hx hb hr hlk hP hD hS dL_wants_18 (Nat.le_of_ble_eq_true rfl) (Nat.le_of_ble_eq_true rfl) ([(x0, .inr (9, fx_q_4)), (m0, .inr (10, fm_q_4)), (aL g o0 1 (vp_updL fo 0 (Int32.toInt64 r_1)))] ++ (Rc_q_4 ++ Rm_q_4)) rfl ⟨(vp_updL fo 0 (Int32.toInt64 r_1)), ⟨_, _, _, _, rfl, hc, hm⟩, hcd.symm, fun _ => (by rw [show (vp_updL fo 0 (Int32.toInt64 r_1)) 0 = _ from vp_updL_s _ _ _]; exact (congrArg Int32.toInt64 hp5))⟩
  · obtain ⟨W8, hI8, h8⟩ := il_Ti (o0 := o0) (fo := fo) h9 hI9 hm
    refine he_xi (En := "java/lang/IllegalArgumentException") (wx := W8) (wc := ([(x0, .inr (9, fx)), (m0, .inr (10, fm)), (aL g o0 1 fo)] ++ (Rc ++ Rm))) (wr := []) (vx_runV (As := [.int x_, .int y_]) (rest := [.int 0, .ref o0]) ⟨hx, hb, hml, hown, hts⟩ (h8 H.size) (cwV 2 hts gL_wants_X10_wants rfl rfl rfl (by decide +kernel) ⟨Nat.le_of_ble_eq_true rfl, Nat.le_of_ble_eq_true rfl⟩) (he_preV (wc := ([(x0, .inr (9, fx)), (m0, .inr (10, fm)), (aL g o0 1 fo)] ++ (Rc ++ Rm))) hK hP hD hS hA hE (List.range (([(x0, .inr (9, fx)), (m0, .inr (10, fm)), (aL g o0 1 fo)] ++ (Rc ++ Rm)) : va_W).length) (he_all _) (he_allnd _) 0 rfl rfl) rfl rfl hl.1 rfl (lv_room (Nat.le_of_ble_eq_true rfl)) dL_wants_5 ⟨(Nat.le_of_ble_eq_true rfl), (Nat.le_of_ble_eq_true rfl)⟩) hP hD hS hA (List.range (([(x0, .inr (9, fx)), (m0, .inr (10, fm)), (aL g o0 1 fo)] ++ (Rc ++ Rm)) : va_W).length) [] (he_all _) rfl rfl (fun _ h9 => absurd h9 List.not_mem_nil) (fun ce q9 H locs hP hD hS hce hcv hcl => ?_)
    obtain ⟨fx_q_5, fm_q_5, Rc_q_5, Rm_q_5, rfl, hc, hm⟩ := hI8
    have hP : va_P g.1 vwCl ([(x0, .inr (9, fx_q_5)), (m0, .inr (10, fm_q_5)), (aL g o0 1 fo)] ++ (Rc_q_5 ++ Rm_q_5)) H := hP
    have hD : va_D A ([(x0, .inr (9, fx_q_5)), (m0, .inr (10, fm_q_5)), (aL g o0 1 fo)] ++ (Rc_q_5 ++ Rm_q_5)) := hD
    refine vx_catch (name := "java/lang/IllegalArgumentException") (E := "java/lang/IllegalArgumentException") hown [] ⟨0, 10, 13, 13⟩ [] htab (fun z h9 => nomatch h9) (by decide) (by decide) cl13 (va_Nw.use rfl (hE.cast ("java/lang/IllegalArgumentException", "java/lang/IllegalArgumentException") (by decide))) hce hcv hcl ?_
    refine W.widen (k := 1) (n := 6) (Nat.le_of_ble_eq_true rfl) (Nat.le_of_ble_eq_true rfl) ?_
    refine lv_astore (lv' := [(4, .ref q9), (0, .ref x0), (1, .int x_), (2, .int y_), (3, .ref o0)]) hx hb dL_wants_13 hl (by decide) rfl (fun ls hl => ?_)
    refine lv_iconst (v := 1) hx hb dL_wants_15 (by decide) ?_
    exact he_ri hQ hx hb hr hlk hP hD hS dL_wants_16 (Nat.le_of_ble_eq_true rfl) (Nat.le_of_ble_eq_true rfl) ([(x0, .inr (9, fx_q_5)), (m0, .inr (10, fm_q_5)), (aL g o0 1 fo)] ++ (Rc_q_5 ++ Rm_q_5)) rfl ⟨fo, ⟨_, _, _, _, rfl, hc, hm⟩, hcd.symm, fun h9 => absurd (hcd.symm.trans h9) (by decide)⟩
set_option maxHeartbeats 8000000 in
set_option maxRecDepth 100000 in
theorem w_sign (l : Launch) (hlt : l.stackTraces = false) (g : he_G) (x0 m0 o0 : Nat) (Sx Sm : AbS) (t : Int32) (fo : Nat → Int64) (W : va_W) (x_ : Int32) (hI : IL g x0 m0 o0 Sx Sm t fo W) : he_I l yL_sign wsL_sign 9 146 1 6 g [.ref x0, .int x_, .ref o0] W (fun (r : Int32) (W2 : va_W) => ∃ fo2 : Nat → Int64, IL g x0 m0 o0 (sp_sign Sx x_).2.2 Sm t fo2 W2 ∧ r = (sp_sign Sx x_).1 ∧ ((sp_sign Sx x_).1 = 0 → fo2 0 = Int32.toInt64 (sp_sign Sx x_).2.1)) (fun W2 => W2) := by
  obtain ⟨fx, fm, Rc, Rm, rfl, hc, hm⟩ := hI
  refine he_beginH (l := l) (g := g) (y := yL_sign) (wl := wsL_sign) (fr := 9) (lo := 146) (mc := 1) (ms := 6) (av := [.ref x0, .int x_, .ref o0]) (ws := [(x0, .inr (9, fx)), (m0, .inr (10, fm)), (aL g o0 1 fo)] ++ (Rc ++ Rm)) (cc := cL_sign) (maxL := 4) (ret := (some .int)) (hh := [(0, 9, 12, 30)]) (fun A => va_Qi (fun (r : Int32) (W2 : va_W) => ∃ fo2 : Nat → Int64, IL g x0 m0 o0 (sp_sign Sx x_).2.2 Sm t fo2 W2 ∧ r = (sp_sign Sx x_).1 ∧ ((sp_sign Sx x_).1 = 0 → fo2 0 = Int32.toInt64 (sp_sign Sx x_).2.1)) (fun u t => he_post g A ((fun (W2 : va_W) => W2) u) t) A) (by decide) rfl (Nat.le_of_ble_eq_true rfl) ?_
  intro p e s m args below meth c A ls H locs Q hQ htab hB
  obtain ⟨hx, hb, hr, hml, hown, hts, hlk, hin, hP, hK, hD, hS, hA, hE, hl⟩ := hB
  have hl : lv_has ls 4 [(0, .ref x0), (1, .int x_), (2, .ref o0)] := hl
  have cl30 := hts (.classLink RL 30 "java/util/NoSuchElementException") (by decide +kernel)
  refine lv_aload_n hx hb dL_sign_0 rfl (lv_at hl 2 rfl) ?_
  refine lv_iconst (v := 0) hx hb dL_sign_1 (by decide) ?_
  refine lv_aload_n hx hb dL_sign_2 rfl (lv_at hl 0 rfl) ?_
  refine lv_iload_n hx hb dL_sign_3 rfl (lv_at hl 1 rfl) ?_
  rcases k_sign l hlt g x0 Sx _ x_ hc with ⟨hcd, h9⟩ | ⟨hcd, W9, hI9, h9⟩
  · refine he_ci (wc := ([(x0, .inr (9, fx)), (m0, .inr (10, fm)), (aL g o0 1 fo)] ++ (Rc ++ Rm))) (wr := []) (va_runV (As := [.int x_]) (rest := [.int 0, .ref o0]) ⟨hx, hb, hml, hown, hts⟩ (il_cI h9 hm H.size) (cwV 1 hts gL_sign_X10_sign rfl rfl rfl (by decide +kernel) ⟨Nat.le_of_ble_eq_true rfl, Nat.le_of_ble_eq_true rfl⟩) (he_preV (wc := ([(x0, .inr (9, fx)), (m0, .inr (10, fm)), (aL g o0 1 fo)] ++ (Rc ++ Rm))) hK hP hD hS hA hE (List.range (([(x0, .inr (9, fx)), (m0, .inr (10, fm)), (aL g o0 1 fo)] ++ (Rc ++ Rm)) : va_W).length) (he_all _) (he_allnd _) 0 rfl rfl) rfl rfl hl.1 rfl (lv_room (Nat.le_of_ble_eq_true rfl)) dL_sign_4 ⟨(Nat.le_of_ble_eq_true rfl), (Nat.le_of_ble_eq_true rfl)⟩) hP hD hS hA (List.range (([(x0, .inr (9, fx)), (m0, .inr (10, fm)), (aL g o0 1 fo)] ++ (Rc ++ Rm)) : va_W).length) [] (he_all _) rfl rfl (fun _ h9 => absurd h9 List.not_mem_nil) (fun r_1 u_2 H locs hu_3 hP hD hS => ?_)
    obtain ⟨hI9, hp4⟩ := hu_3
    obtain ⟨fx_q_4, fm_q_4, Rc_q_4, Rm_q_4, rfl, hc, hm⟩ := hI9
    have hP : va_P g.1 vwCl ([(x0, .inr (9, fx_q_4)), (m0, .inr (10, fm_q_4)), (aL g o0 1 fo)] ++ (Rc_q_4 ++ Rm_q_4)) H := hP
    have hD : va_D A ([(x0, .inr (9, fx_q_4)), (m0, .inr (10, fm_q_4)), (aL g o0 1 fo)] ++ (Rc_q_4 ++ Rm_q_4)) := hD
    refine lv_i2l (v := Int32.toInt64 r_1) hx hb dL_sign_7 rfl ?_
    refine he_last hx hb hK hP hD hS 2 rfl 0 (by decide) (by decide) (by decide) dL_sign_8 (fun H locs hP hD hS => ?_)
    have hP : va_P g.1 vwCl ([(x0, .inr (9, fx_q_4)), (m0, .inr (10, fm_q_4)), (aL g o0 1 (vp_updL fo 0 (Int32.toInt64 r_1)))] ++ (Rc_q_4 ++ Rm_q_4)) H := hP
    have hD : va_D A ([(x0, .inr (9, fx_q_4)), (m0, .inr (10, fm_q_4)), (aL g o0 1 (vp_updL fo 0 (Int32.toInt64 r_1)))] ++ (Rc_q_4 ++ Rm_q_4)) := hD
    refine lv_goto (tgt := 15) hx hb dL_sign_9 (by decide) ?_
    refine lv_iconst (v := 0) hx hb dL_sign_15 (by decide) ?_
    exact he_ri hQ hx hb hr hlk hP hD hS dL_sign_16 (Nat.le_of_ble_eq_true rfl) (Nat.le_of_ble_eq_true rfl) ([(x0, .inr (9, fx_q_4)), (m0, .inr (10, fm_q_4)), (aL g o0 1 (vp_updL fo 0 (Int32.toInt64 r_1)))] ++ (Rc_q_4 ++ Rm_q_4)) rfl ⟨(vp_updL fo 0 (Int32.toInt64 r_1)), ⟨_, _, _, _, rfl, hc, hm⟩, hcd.symm, fun _ => (by rw [show (vp_updL fo 0 (Int32.toInt64 r_1)) 0 = _ from vp_updL_s _ _ _]; exact (congrArg Int32.toInt64 hp4))⟩
  · obtain ⟨W8, hI8, h8⟩ := il_Ti (o0 := o0) (fo := fo) h9 hI9 hm
    refine he_xi (En := "java/util/NoSuchElementException") (wx := W8) (wc := ([(x0, .inr (9, fx)), (m0, .inr (10, fm)), (aL g o0 1 fo)] ++ (Rc ++ Rm))) (wr := []) (vx_runV (As := [.int x_]) (rest := [.int 0, .ref o0]) ⟨hx, hb, hml, hown, hts⟩ (h8 H.size) (cwV 1 hts gL_sign_X10_sign rfl rfl rfl (by decide +kernel) ⟨Nat.le_of_ble_eq_true rfl, Nat.le_of_ble_eq_true rfl⟩) (he_preV (wc := ([(x0, .inr (9, fx)), (m0, .inr (10, fm)), (aL g o0 1 fo)] ++ (Rc ++ Rm))) hK hP hD hS hA hE (List.range (([(x0, .inr (9, fx)), (m0, .inr (10, fm)), (aL g o0 1 fo)] ++ (Rc ++ Rm)) : va_W).length) (he_all _) (he_allnd _) 0 rfl rfl) rfl rfl hl.1 rfl (lv_room (Nat.le_of_ble_eq_true rfl)) dL_sign_4 ⟨(Nat.le_of_ble_eq_true rfl), (Nat.le_of_ble_eq_true rfl)⟩) hP hD hS hA (List.range (([(x0, .inr (9, fx)), (m0, .inr (10, fm)), (aL g o0 1 fo)] ++ (Rc ++ Rm)) : va_W).length) [] (he_all _) rfl rfl (fun _ h9 => absurd h9 List.not_mem_nil) (fun ce q9 H locs hP hD hS hce hcv hcl => ?_)
    obtain ⟨fx_q_5, fm_q_5, Rc_q_5, Rm_q_5, rfl, hc, hm⟩ := hI8
    have hP : va_P g.1 vwCl ([(x0, .inr (9, fx_q_5)), (m0, .inr (10, fm_q_5)), (aL g o0 1 fo)] ++ (Rc_q_5 ++ Rm_q_5)) H := hP
    have hD : va_D A ([(x0, .inr (9, fx_q_5)), (m0, .inr (10, fm_q_5)), (aL g o0 1 fo)] ++ (Rc_q_5 ++ Rm_q_5)) := hD
    refine vx_catch (name := "java/util/NoSuchElementException") (E := "java/util/NoSuchElementException") hown [] ⟨0, 9, 12, 30⟩ [] htab (fun z h9 => nomatch h9) (by decide) (by decide) cl30 (va_Nw.use rfl (hE.cast ("java/util/NoSuchElementException", "java/util/NoSuchElementException") (by decide))) hce hcv hcl ?_
    refine W.widen (k := 1) (n := 6) (Nat.le_of_ble_eq_true rfl) (Nat.le_of_ble_eq_true rfl) ?_
    refine lv_astore_n (lv' := [(3, .ref q9), (0, .ref x0), (1, .int x_), (2, .ref o0)]) hx hb dL_sign_12 rfl hl (by decide) rfl (fun ls hl => ?_)
    refine lv_iconst (v := 1) hx hb dL_sign_13 (by decide) ?_
    exact he_ri hQ hx hb hr hlk hP hD hS dL_sign_14 (Nat.le_of_ble_eq_true rfl) (Nat.le_of_ble_eq_true rfl) ([(x0, .inr (9, fx_q_5)), (m0, .inr (10, fm_q_5)), (aL g o0 1 fo)] ++ (Rc_q_5 ++ Rm_q_5)) rfl ⟨fo, ⟨_, _, _, _, rfl, hc, hm⟩, hcd.symm, fun h9 => absurd (hcd.symm.trans h9) (by decide)⟩
set_option maxHeartbeats 8000000 in
set_option maxRecDepth 100000 in
theorem w_months (l : Launch) (hlt : l.stackTraces = false) (g : he_G) (x0 m0 o0 : Nat) (Sx Sm : AbS) (t : Int32) (fo : Nat → Int64) (W : va_W) (x_ : Int32) (hOk : okS Sx) (hI : IL g x0 m0 o0 Sx Sm t fo W) : he_I l yL_months wsL_months 8 132 1 6 g [.ref x0, .int x_, .ref o0] W (fun (r : Int32) (W2 : va_W) => ∃ fo2 : Nat → Int64, IL g x0 m0 o0 (sp_months Sx x_).2.2 Sm t fo2 W2 ∧ r = (sp_months Sx x_).1 ∧ ((sp_months Sx x_).1 = 0 → fo2 0 = Int32.toInt64 (sp_months Sx x_).2.1)) (fun W2 => W2) := by
  obtain ⟨fx, fm, Rc, Rm, rfl, hc, hm⟩ := hI
  refine he_beginH (l := l) (g := g) (y := yL_months) (wl := wsL_months) (fr := 8) (lo := 132) (mc := 1) (ms := 6) (av := [.ref x0, .int x_, .ref o0]) (ws := [(x0, .inr (9, fx)), (m0, .inr (10, fm)), (aL g o0 1 fo)] ++ (Rc ++ Rm)) (cc := cL_months) (maxL := 4) (ret := (some .int)) (hh := [(0, 9, 12, 13)]) (fun A => va_Qi (fun (r : Int32) (W2 : va_W) => ∃ fo2 : Nat → Int64, IL g x0 m0 o0 (sp_months Sx x_).2.2 Sm t fo2 W2 ∧ r = (sp_months Sx x_).1 ∧ ((sp_months Sx x_).1 = 0 → fo2 0 = Int32.toInt64 (sp_months Sx x_).2.1)) (fun u t => he_post g A ((fun (W2 : va_W) => W2) u) t) A) (by decide) rfl (Nat.le_of_ble_eq_true rfl) ?_
  intro p e s m args below meth c A ls H locs Q hQ htab hB
  obtain ⟨hx, hb, hr, hml, hown, hts, hlk, hin, hP, hK, hD, hS, hA, hE, hl⟩ := hB
  have hl : lv_has ls 4 [(0, .ref x0), (1, .int x_), (2, .ref o0)] := hl
  have cl13 := hts (.classLink RL 13 "java/lang/IllegalArgumentException") (by decide +kernel)
  refine lv_aload_n hx hb dL_months_0 rfl (lv_at hl 2 rfl) ?_
  refine lv_iconst (v := 0) hx hb dL_months_1 (by decide) ?_
  refine lv_aload_n hx hb dL_months_2 rfl (lv_at hl 0 rfl) ?_
  refine lv_iload_n hx hb dL_months_3 rfl (lv_at hl 1 rfl) ?_
  rcases k_months l hlt g x0 Sx _ x_ hOk hc with ⟨hcd, h9⟩ | ⟨hcd, W9, hI9, h9⟩
  · refine he_ci (wc := ([(x0, .inr (9, fx)), (m0, .inr (10, fm)), (aL g o0 1 fo)] ++ (Rc ++ Rm))) (wr := []) (va_runV (As := [.int x_]) (rest := [.int 0, .ref o0]) ⟨hx, hb, hml, hown, hts⟩ (il_cI h9 hm H.size) (cwV 1 hts gL_months_X10_months rfl rfl rfl (by decide +kernel) ⟨Nat.le_of_ble_eq_true rfl, Nat.le_of_ble_eq_true rfl⟩) (he_preV (wc := ([(x0, .inr (9, fx)), (m0, .inr (10, fm)), (aL g o0 1 fo)] ++ (Rc ++ Rm))) hK hP hD hS hA hE (List.range (([(x0, .inr (9, fx)), (m0, .inr (10, fm)), (aL g o0 1 fo)] ++ (Rc ++ Rm)) : va_W).length) (he_all _) (he_allnd _) 0 rfl rfl) rfl rfl hl.1 rfl (lv_room (Nat.le_of_ble_eq_true rfl)) dL_months_4 ⟨(Nat.le_of_ble_eq_true rfl), (Nat.le_of_ble_eq_true rfl)⟩) hP hD hS hA (List.range (([(x0, .inr (9, fx)), (m0, .inr (10, fm)), (aL g o0 1 fo)] ++ (Rc ++ Rm)) : va_W).length) [] (he_all _) rfl rfl (fun _ h9 => absurd h9 List.not_mem_nil) (fun r_1 u_2 H locs hu_3 hP hD hS => ?_)
    obtain ⟨hI9, hp4⟩ := hu_3
    obtain ⟨fx_q_4, fm_q_4, Rc_q_4, Rm_q_4, rfl, hc, hm⟩ := hI9
    have hP : va_P g.1 vwCl ([(x0, .inr (9, fx_q_4)), (m0, .inr (10, fm_q_4)), (aL g o0 1 fo)] ++ (Rc_q_4 ++ Rm_q_4)) H := hP
    have hD : va_D A ([(x0, .inr (9, fx_q_4)), (m0, .inr (10, fm_q_4)), (aL g o0 1 fo)] ++ (Rc_q_4 ++ Rm_q_4)) := hD
    refine lv_i2l (v := Int32.toInt64 r_1) hx hb dL_months_7 rfl ?_
    refine he_last hx hb hK hP hD hS 2 rfl 0 (by decide) (by decide) (by decide) dL_months_8 (fun H locs hP hD hS => ?_)
    have hP : va_P g.1 vwCl ([(x0, .inr (9, fx_q_4)), (m0, .inr (10, fm_q_4)), (aL g o0 1 (vp_updL fo 0 (Int32.toInt64 r_1)))] ++ (Rc_q_4 ++ Rm_q_4)) H := hP
    have hD : va_D A ([(x0, .inr (9, fx_q_4)), (m0, .inr (10, fm_q_4)), (aL g o0 1 (vp_updL fo 0 (Int32.toInt64 r_1)))] ++ (Rc_q_4 ++ Rm_q_4)) := hD
    refine lv_goto (tgt := 15) hx hb dL_months_9 (by decide) ?_
    refine lv_iconst (v := 0) hx hb dL_months_15 (by decide) ?_
    exact he_ri hQ hx hb hr hlk hP hD hS dL_months_16 (Nat.le_of_ble_eq_true rfl) (Nat.le_of_ble_eq_true rfl) ([(x0, .inr (9, fx_q_4)), (m0, .inr (10, fm_q_4)), (aL g o0 1 (vp_updL fo 0 (Int32.toInt64 r_1)))] ++ (Rc_q_4 ++ Rm_q_4)) rfl ⟨(vp_updL fo 0 (Int32.toInt64 r_1)), ⟨_, _, _, _, rfl, hc, hm⟩, hcd.symm, fun _ => (by rw [show (vp_updL fo 0 (Int32.toInt64 r_1)) 0 = _ from vp_updL_s _ _ _]; exact (congrArg Int32.toInt64 hp4))⟩
  · obtain ⟨W8, hI8, h8⟩ := il_Ti (o0 := o0) (fo := fo) h9 hI9 hm
    refine he_xi (En := "java/lang/IllegalArgumentException") (wx := W8) (wc := ([(x0, .inr (9, fx)), (m0, .inr (10, fm)), (aL g o0 1 fo)] ++ (Rc ++ Rm))) (wr := []) (vx_runV (As := [.int x_]) (rest := [.int 0, .ref o0]) ⟨hx, hb, hml, hown, hts⟩ (h8 H.size) (cwV 1 hts gL_months_X10_months rfl rfl rfl (by decide +kernel) ⟨Nat.le_of_ble_eq_true rfl, Nat.le_of_ble_eq_true rfl⟩) (he_preV (wc := ([(x0, .inr (9, fx)), (m0, .inr (10, fm)), (aL g o0 1 fo)] ++ (Rc ++ Rm))) hK hP hD hS hA hE (List.range (([(x0, .inr (9, fx)), (m0, .inr (10, fm)), (aL g o0 1 fo)] ++ (Rc ++ Rm)) : va_W).length) (he_all _) (he_allnd _) 0 rfl rfl) rfl rfl hl.1 rfl (lv_room (Nat.le_of_ble_eq_true rfl)) dL_months_4 ⟨(Nat.le_of_ble_eq_true rfl), (Nat.le_of_ble_eq_true rfl)⟩) hP hD hS hA (List.range (([(x0, .inr (9, fx)), (m0, .inr (10, fm)), (aL g o0 1 fo)] ++ (Rc ++ Rm)) : va_W).length) [] (he_all _) rfl rfl (fun _ h9 => absurd h9 List.not_mem_nil) (fun ce q9 H locs hP hD hS hce hcv hcl => ?_)
    obtain ⟨fx_q_5, fm_q_5, Rc_q_5, Rm_q_5, rfl, hc, hm⟩ := hI8
    have hP : va_P g.1 vwCl ([(x0, .inr (9, fx_q_5)), (m0, .inr (10, fm_q_5)), (aL g o0 1 fo)] ++ (Rc_q_5 ++ Rm_q_5)) H := hP
    have hD : va_D A ([(x0, .inr (9, fx_q_5)), (m0, .inr (10, fm_q_5)), (aL g o0 1 fo)] ++ (Rc_q_5 ++ Rm_q_5)) := hD
    refine vx_catch (name := "java/lang/IllegalArgumentException") (E := "java/lang/IllegalArgumentException") hown [] ⟨0, 9, 12, 13⟩ [] htab (fun z h9 => nomatch h9) (by decide) (by decide) cl13 (va_Nw.use rfl (hE.cast ("java/lang/IllegalArgumentException", "java/lang/IllegalArgumentException") (by decide))) hce hcv hcl ?_
    refine W.widen (k := 1) (n := 6) (Nat.le_of_ble_eq_true rfl) (Nat.le_of_ble_eq_true rfl) ?_
    refine lv_astore_n (lv' := [(3, .ref q9), (0, .ref x0), (1, .int x_), (2, .ref o0)]) hx hb dL_months_12 rfl hl (by decide) rfl (fun ls hl => ?_)
    refine lv_iconst (v := 1) hx hb dL_months_13 (by decide) ?_
    exact he_ri hQ hx hb hr hlk hP hD hS dL_months_14 (Nat.le_of_ble_eq_true rfl) (Nat.le_of_ble_eq_true rfl) ([(x0, .inr (9, fx_q_5)), (m0, .inr (10, fm_q_5)), (aL g o0 1 fo)] ++ (Rc_q_5 ++ Rm_q_5)) rfl ⟨fo, ⟨_, _, _, _, rfl, hc, hm⟩, hcd.symm, fun h9 => absurd (hcd.symm.trans h9) (by decide)⟩
set_option maxHeartbeats 8000000 in
set_option maxRecDepth 100000 in
theorem w_undo (l : Launch) (hlt : l.stackTraces = false) (g : he_G) (x0 m0 o0 : Nat) (Sx Sm : AbS) (t : Int32) (fo : Nat → Int64) (W : va_W) (x_ : Int32) (hI : IL g x0 m0 o0 Sx Sm t fo W) : he_I l yL_undo wsL_undo 8 125 1 6 g [.ref x0, .int x_, .ref o0] W (fun (r : Int32) (W2 : va_W) => ∃ fo2 : Nat → Int64, IL g x0 m0 o0 (sp_undo Sx x_).2.2 Sm t fo2 W2 ∧ r = (sp_undo Sx x_).1 ∧ ((sp_undo Sx x_).1 = 0 → fo2 0 = Int32.toInt64 (sp_undo Sx x_).2.1)) (fun W2 => W2) := by
  obtain ⟨fx, fm, Rc, Rm, rfl, hc, hm⟩ := hI
  refine he_beginH (l := l) (g := g) (y := yL_undo) (wl := wsL_undo) (fr := 8) (lo := 125) (mc := 1) (ms := 6) (av := [.ref x0, .int x_, .ref o0]) (ws := [(x0, .inr (9, fx)), (m0, .inr (10, fm)), (aL g o0 1 fo)] ++ (Rc ++ Rm)) (cc := cL_undo) (maxL := 4) (ret := (some .int)) (hh := [(0, 9, 12, 13)]) (fun A => va_Qi (fun (r : Int32) (W2 : va_W) => ∃ fo2 : Nat → Int64, IL g x0 m0 o0 (sp_undo Sx x_).2.2 Sm t fo2 W2 ∧ r = (sp_undo Sx x_).1 ∧ ((sp_undo Sx x_).1 = 0 → fo2 0 = Int32.toInt64 (sp_undo Sx x_).2.1)) (fun u t => he_post g A ((fun (W2 : va_W) => W2) u) t) A) (by decide) rfl (Nat.le_of_ble_eq_true rfl) ?_
  intro p e s m args below meth c A ls H locs Q hQ htab hB
  obtain ⟨hx, hb, hr, hml, hown, hts, hlk, hin, hP, hK, hD, hS, hA, hE, hl⟩ := hB
  have hl : lv_has ls 4 [(0, .ref x0), (1, .int x_), (2, .ref o0)] := hl
  have cl13 := hts (.classLink RL 13 "java/lang/IllegalArgumentException") (by decide +kernel)
  refine lv_aload_n hx hb dL_undo_0 rfl (lv_at hl 2 rfl) ?_
  refine lv_iconst (v := 0) hx hb dL_undo_1 (by decide) ?_
  refine lv_aload_n hx hb dL_undo_2 rfl (lv_at hl 0 rfl) ?_
  refine lv_iload_n hx hb dL_undo_3 rfl (lv_at hl 1 rfl) ?_
  rcases k_undo l hlt g x0 Sx _ x_ hc with ⟨hcd, h9⟩ | ⟨hcd, W9, hI9, h9⟩
  · refine he_ci (wc := ([(x0, .inr (9, fx)), (m0, .inr (10, fm)), (aL g o0 1 fo)] ++ (Rc ++ Rm))) (wr := []) (va_runV (As := [.int x_]) (rest := [.int 0, .ref o0]) ⟨hx, hb, hml, hown, hts⟩ (il_cI h9 hm H.size) (cwV 1 hts gL_undo_X10_undo rfl rfl rfl (by decide +kernel) ⟨Nat.le_of_ble_eq_true rfl, Nat.le_of_ble_eq_true rfl⟩) (he_preV (wc := ([(x0, .inr (9, fx)), (m0, .inr (10, fm)), (aL g o0 1 fo)] ++ (Rc ++ Rm))) hK hP hD hS hA hE (List.range (([(x0, .inr (9, fx)), (m0, .inr (10, fm)), (aL g o0 1 fo)] ++ (Rc ++ Rm)) : va_W).length) (he_all _) (he_allnd _) 0 rfl rfl) rfl rfl hl.1 rfl (lv_room (Nat.le_of_ble_eq_true rfl)) dL_undo_4 ⟨(Nat.le_of_ble_eq_true rfl), (Nat.le_of_ble_eq_true rfl)⟩) hP hD hS hA (List.range (([(x0, .inr (9, fx)), (m0, .inr (10, fm)), (aL g o0 1 fo)] ++ (Rc ++ Rm)) : va_W).length) [] (he_all _) rfl rfl (fun _ h9 => absurd h9 List.not_mem_nil) (fun r_1 u_2 H locs hu_3 hP hD hS => ?_)
    obtain ⟨hI9, hp4⟩ := hu_3
    obtain ⟨fx_q_4, fm_q_4, Rc_q_4, Rm_q_4, rfl, hc, hm⟩ := hI9
    have hP : va_P g.1 vwCl ([(x0, .inr (9, fx_q_4)), (m0, .inr (10, fm_q_4)), (aL g o0 1 fo)] ++ (Rc_q_4 ++ Rm_q_4)) H := hP
    have hD : va_D A ([(x0, .inr (9, fx_q_4)), (m0, .inr (10, fm_q_4)), (aL g o0 1 fo)] ++ (Rc_q_4 ++ Rm_q_4)) := hD
    refine lv_i2l (v := Int32.toInt64 r_1) hx hb dL_undo_7 rfl ?_
    refine he_last hx hb hK hP hD hS 2 rfl 0 (by decide) (by decide) (by decide) dL_undo_8 (fun H locs hP hD hS => ?_)
    have hP : va_P g.1 vwCl ([(x0, .inr (9, fx_q_4)), (m0, .inr (10, fm_q_4)), (aL g o0 1 (vp_updL fo 0 (Int32.toInt64 r_1)))] ++ (Rc_q_4 ++ Rm_q_4)) H := hP
    have hD : va_D A ([(x0, .inr (9, fx_q_4)), (m0, .inr (10, fm_q_4)), (aL g o0 1 (vp_updL fo 0 (Int32.toInt64 r_1)))] ++ (Rc_q_4 ++ Rm_q_4)) := hD
    refine lv_goto (tgt := 15) hx hb dL_undo_9 (by decide) ?_
    refine lv_iconst (v := 0) hx hb dL_undo_15 (by decide) ?_
    exact he_ri hQ hx hb hr hlk hP hD hS dL_undo_16 (Nat.le_of_ble_eq_true rfl) (Nat.le_of_ble_eq_true rfl) ([(x0, .inr (9, fx_q_4)), (m0, .inr (10, fm_q_4)), (aL g o0 1 (vp_updL fo 0 (Int32.toInt64 r_1)))] ++ (Rc_q_4 ++ Rm_q_4)) rfl ⟨(vp_updL fo 0 (Int32.toInt64 r_1)), ⟨_, _, _, _, rfl, hc, hm⟩, hcd.symm, fun _ => (by rw [show (vp_updL fo 0 (Int32.toInt64 r_1)) 0 = _ from vp_updL_s _ _ _]; exact (congrArg Int32.toInt64 hp4))⟩
  · obtain ⟨W8, hI8, h8⟩ := il_Ti (o0 := o0) (fo := fo) h9 hI9 hm
    refine he_xi (En := "java/lang/IllegalArgumentException") (wx := W8) (wc := ([(x0, .inr (9, fx)), (m0, .inr (10, fm)), (aL g o0 1 fo)] ++ (Rc ++ Rm))) (wr := []) (vx_runV (As := [.int x_]) (rest := [.int 0, .ref o0]) ⟨hx, hb, hml, hown, hts⟩ (h8 H.size) (cwV 1 hts gL_undo_X10_undo rfl rfl rfl (by decide +kernel) ⟨Nat.le_of_ble_eq_true rfl, Nat.le_of_ble_eq_true rfl⟩) (he_preV (wc := ([(x0, .inr (9, fx)), (m0, .inr (10, fm)), (aL g o0 1 fo)] ++ (Rc ++ Rm))) hK hP hD hS hA hE (List.range (([(x0, .inr (9, fx)), (m0, .inr (10, fm)), (aL g o0 1 fo)] ++ (Rc ++ Rm)) : va_W).length) (he_all _) (he_allnd _) 0 rfl rfl) rfl rfl hl.1 rfl (lv_room (Nat.le_of_ble_eq_true rfl)) dL_undo_4 ⟨(Nat.le_of_ble_eq_true rfl), (Nat.le_of_ble_eq_true rfl)⟩) hP hD hS hA (List.range (([(x0, .inr (9, fx)), (m0, .inr (10, fm)), (aL g o0 1 fo)] ++ (Rc ++ Rm)) : va_W).length) [] (he_all _) rfl rfl (fun _ h9 => absurd h9 List.not_mem_nil) (fun ce q9 H locs hP hD hS hce hcv hcl => ?_)
    obtain ⟨fx_q_5, fm_q_5, Rc_q_5, Rm_q_5, rfl, hc, hm⟩ := hI8
    have hP : va_P g.1 vwCl ([(x0, .inr (9, fx_q_5)), (m0, .inr (10, fm_q_5)), (aL g o0 1 fo)] ++ (Rc_q_5 ++ Rm_q_5)) H := hP
    have hD : va_D A ([(x0, .inr (9, fx_q_5)), (m0, .inr (10, fm_q_5)), (aL g o0 1 fo)] ++ (Rc_q_5 ++ Rm_q_5)) := hD
    refine vx_catch (name := "java/lang/IllegalArgumentException") (E := "java/lang/IllegalArgumentException") hown [] ⟨0, 9, 12, 13⟩ [] htab (fun z h9 => nomatch h9) (by decide) (by decide) cl13 (va_Nw.use rfl (hE.cast ("java/lang/IllegalArgumentException", "java/lang/IllegalArgumentException") (by decide))) hce hcv hcl ?_
    refine W.widen (k := 1) (n := 6) (Nat.le_of_ble_eq_true rfl) (Nat.le_of_ble_eq_true rfl) ?_
    refine lv_astore_n (lv' := [(3, .ref q9), (0, .ref x0), (1, .int x_), (2, .ref o0)]) hx hb dL_undo_12 rfl hl (by decide) rfl (fun ls hl => ?_)
    refine lv_iconst (v := 1) hx hb dL_undo_13 (by decide) ?_
    exact he_ri hQ hx hb hr hlk hP hD hS dL_undo_14 (Nat.le_of_ble_eq_true rfl) (Nat.le_of_ble_eq_true rfl) ([(x0, .inr (9, fx_q_5)), (m0, .inr (10, fm_q_5)), (aL g o0 1 fo)] ++ (Rc_q_5 ++ Rm_q_5)) rfl ⟨fo, ⟨_, _, _, _, rfl, hc, hm⟩, hcd.symm, fun h9 => absurd (hcd.symm.trans h9) (by decide)⟩
end
section
set_option maxHeartbeats 8000000 in
set_option maxRecDepth 100000 in
theorem w_sums (l : Launch) (hlt : l.stackTraces = false) (g : he_G) (x0 m0 o0 : Nat) (Sx Sm : AbS) (t : Int32) (fo : Nat → Int64) (W : va_W) (x_ : Int32) (hI : IL g x0 m0 o0 Sx Sm t fo W) : he_I l yL_sums wsL_sums 8 124 1 6 g [.ref x0, .int x_, .ref o0] W (fun (r : Int32) (W2 : va_W) => ∃ fo2 : Nat → Int64, IL g x0 m0 o0 (sp_sums Sx x_).2.2 Sm t fo2 W2 ∧ r = (sp_sums Sx x_).1 ∧ ((sp_sums Sx x_).1 = 0 → fo2 0 = Int32.toInt64 (sp_sums Sx x_).2.1)) (fun W2 => W2) := by
  obtain ⟨fx, fm, Rc, Rm, rfl, hc, hm⟩ := hI
  refine he_beginH (l := l) (g := g) (y := yL_sums) (wl := wsL_sums) (fr := 8) (lo := 124) (mc := 1) (ms := 6) (av := [.ref x0, .int x_, .ref o0]) (ws := [(x0, .inr (9, fx)), (m0, .inr (10, fm)), (aL g o0 1 fo)] ++ (Rc ++ Rm)) (cc := cL_sums) (maxL := 4) (ret := (some .int)) (hh := [(0, 9, 12, 13)]) (fun A => va_Qi (fun (r : Int32) (W2 : va_W) => ∃ fo2 : Nat → Int64, IL g x0 m0 o0 (sp_sums Sx x_).2.2 Sm t fo2 W2 ∧ r = (sp_sums Sx x_).1 ∧ ((sp_sums Sx x_).1 = 0 → fo2 0 = Int32.toInt64 (sp_sums Sx x_).2.1)) (fun u t => he_post g A ((fun (W2 : va_W) => W2) u) t) A) (by decide) rfl (Nat.le_of_ble_eq_true rfl) ?_
  intro p e s m args below meth c A ls H locs Q hQ htab hB
  obtain ⟨hx, hb, hr, hml, hown, hts, hlk, hin, hP, hK, hD, hS, hA, hE, hl⟩ := hB
  have hl : lv_has ls 4 [(0, .ref x0), (1, .int x_), (2, .ref o0)] := hl
  have cl13 := hts (.classLink RL 13 "java/lang/IllegalArgumentException") (by decide +kernel)
  refine lv_aload_n hx hb dL_sums_0 rfl (lv_at hl 2 rfl) ?_
  refine lv_iconst (v := 0) hx hb dL_sums_1 (by decide) ?_
  refine lv_aload_n hx hb dL_sums_2 rfl (lv_at hl 0 rfl) ?_
  refine lv_iload_n hx hb dL_sums_3 rfl (lv_at hl 1 rfl) ?_
  rcases k_sums l hlt g x0 Sx _ x_ hc with ⟨hcd, h9⟩ | ⟨hcd, W9, hI9, h9⟩
  · refine he_ci (wc := ([(x0, .inr (9, fx)), (m0, .inr (10, fm)), (aL g o0 1 fo)] ++ (Rc ++ Rm))) (wr := []) (va_runV (As := [.int x_]) (rest := [.int 0, .ref o0]) ⟨hx, hb, hml, hown, hts⟩ (il_cI h9 hm H.size) (cwV 1 hts gL_sums_X10_sums rfl rfl rfl (by decide +kernel) ⟨Nat.le_of_ble_eq_true rfl, Nat.le_of_ble_eq_true rfl⟩) (he_preV (wc := ([(x0, .inr (9, fx)), (m0, .inr (10, fm)), (aL g o0 1 fo)] ++ (Rc ++ Rm))) hK hP hD hS hA hE (List.range (([(x0, .inr (9, fx)), (m0, .inr (10, fm)), (aL g o0 1 fo)] ++ (Rc ++ Rm)) : va_W).length) (he_all _) (he_allnd _) 0 rfl rfl) rfl rfl hl.1 rfl (lv_room (Nat.le_of_ble_eq_true rfl)) dL_sums_4 ⟨(Nat.le_of_ble_eq_true rfl), (Nat.le_of_ble_eq_true rfl)⟩) hP hD hS hA (List.range (([(x0, .inr (9, fx)), (m0, .inr (10, fm)), (aL g o0 1 fo)] ++ (Rc ++ Rm)) : va_W).length) [] (he_all _) rfl rfl (fun _ h9 => absurd h9 List.not_mem_nil) (fun r_1 u_2 H locs hu_3 hP hD hS => ?_)
    obtain ⟨hI9, hp4⟩ := hu_3
    obtain ⟨fx_q_4, fm_q_4, Rc_q_4, Rm_q_4, rfl, hc, hm⟩ := hI9
    have hP : va_P g.1 vwCl ([(x0, .inr (9, fx_q_4)), (m0, .inr (10, fm_q_4)), (aL g o0 1 fo)] ++ (Rc_q_4 ++ Rm_q_4)) H := hP
    have hD : va_D A ([(x0, .inr (9, fx_q_4)), (m0, .inr (10, fm_q_4)), (aL g o0 1 fo)] ++ (Rc_q_4 ++ Rm_q_4)) := hD
    refine lv_i2l (v := Int32.toInt64 r_1) hx hb dL_sums_7 rfl ?_
    refine he_last hx hb hK hP hD hS 2 rfl 0 (by decide) (by decide) (by decide) dL_sums_8 (fun H locs hP hD hS => ?_)
    have hP : va_P g.1 vwCl ([(x0, .inr (9, fx_q_4)), (m0, .inr (10, fm_q_4)), (aL g o0 1 (vp_updL fo 0 (Int32.toInt64 r_1)))] ++ (Rc_q_4 ++ Rm_q_4)) H := hP
    have hD : va_D A ([(x0, .inr (9, fx_q_4)), (m0, .inr (10, fm_q_4)), (aL g o0 1 (vp_updL fo 0 (Int32.toInt64 r_1)))] ++ (Rc_q_4 ++ Rm_q_4)) := hD
    refine lv_goto (tgt := 15) hx hb dL_sums_9 (by decide) ?_
    refine lv_iconst (v := 0) hx hb dL_sums_15 (by decide) ?_
    exact he_ri hQ hx hb hr hlk hP hD hS dL_sums_16 (Nat.le_of_ble_eq_true rfl) (Nat.le_of_ble_eq_true rfl) ([(x0, .inr (9, fx_q_4)), (m0, .inr (10, fm_q_4)), (aL g o0 1 (vp_updL fo 0 (Int32.toInt64 r_1)))] ++ (Rc_q_4 ++ Rm_q_4)) rfl ⟨(vp_updL fo 0 (Int32.toInt64 r_1)), ⟨_, _, _, _, rfl, hc, hm⟩, hcd.symm, fun _ => (by rw [show (vp_updL fo 0 (Int32.toInt64 r_1)) 0 = _ from vp_updL_s _ _ _]; exact (congrArg Int32.toInt64 hp4))⟩
  · obtain ⟨W8, hI8, h8⟩ := il_Ti (o0 := o0) (fo := fo) h9 hI9 hm
    refine he_xi (En := "java/lang/IllegalArgumentException") (wx := W8) (wc := ([(x0, .inr (9, fx)), (m0, .inr (10, fm)), (aL g o0 1 fo)] ++ (Rc ++ Rm))) (wr := []) (vx_runV (As := [.int x_]) (rest := [.int 0, .ref o0]) ⟨hx, hb, hml, hown, hts⟩ (h8 H.size) (cwV 1 hts gL_sums_X10_sums rfl rfl rfl (by decide +kernel) ⟨Nat.le_of_ble_eq_true rfl, Nat.le_of_ble_eq_true rfl⟩) (he_preV (wc := ([(x0, .inr (9, fx)), (m0, .inr (10, fm)), (aL g o0 1 fo)] ++ (Rc ++ Rm))) hK hP hD hS hA hE (List.range (([(x0, .inr (9, fx)), (m0, .inr (10, fm)), (aL g o0 1 fo)] ++ (Rc ++ Rm)) : va_W).length) (he_all _) (he_allnd _) 0 rfl rfl) rfl rfl hl.1 rfl (lv_room (Nat.le_of_ble_eq_true rfl)) dL_sums_4 ⟨(Nat.le_of_ble_eq_true rfl), (Nat.le_of_ble_eq_true rfl)⟩) hP hD hS hA (List.range (([(x0, .inr (9, fx)), (m0, .inr (10, fm)), (aL g o0 1 fo)] ++ (Rc ++ Rm)) : va_W).length) [] (he_all _) rfl rfl (fun _ h9 => absurd h9 List.not_mem_nil) (fun ce q9 H locs hP hD hS hce hcv hcl => ?_)
    obtain ⟨fx_q_5, fm_q_5, Rc_q_5, Rm_q_5, rfl, hc, hm⟩ := hI8
    have hP : va_P g.1 vwCl ([(x0, .inr (9, fx_q_5)), (m0, .inr (10, fm_q_5)), (aL g o0 1 fo)] ++ (Rc_q_5 ++ Rm_q_5)) H := hP
    have hD : va_D A ([(x0, .inr (9, fx_q_5)), (m0, .inr (10, fm_q_5)), (aL g o0 1 fo)] ++ (Rc_q_5 ++ Rm_q_5)) := hD
    refine vx_catch (name := "java/lang/IllegalArgumentException") (E := "java/lang/IllegalArgumentException") hown [] ⟨0, 9, 12, 13⟩ [] htab (fun z h9 => nomatch h9) (by decide) (by decide) cl13 (va_Nw.use rfl (hE.cast ("java/lang/IllegalArgumentException", "java/lang/IllegalArgumentException") (by decide))) hce hcv hcl ?_
    refine W.widen (k := 1) (n := 6) (Nat.le_of_ble_eq_true rfl) (Nat.le_of_ble_eq_true rfl) ?_
    refine lv_astore_n (lv' := [(3, .ref q9), (0, .ref x0), (1, .int x_), (2, .ref o0)]) hx hb dL_sums_12 rfl hl (by decide) rfl (fun ls hl => ?_)
    refine lv_iconst (v := 1) hx hb dL_sums_13 (by decide) ?_
    exact he_ri hQ hx hb hr hlk hP hD hS dL_sums_14 (Nat.le_of_ble_eq_true rfl) (Nat.le_of_ble_eq_true rfl) ([(x0, .inr (9, fx_q_5)), (m0, .inr (10, fm_q_5)), (aL g o0 1 fo)] ++ (Rc_q_5 ++ Rm_q_5)) rfl ⟨fo, ⟨_, _, _, _, rfl, hc, hm⟩, hcd.symm, fun h9 => absurd (hcd.symm.trans h9) (by decide)⟩
set_option maxHeartbeats 8000000 in
set_option maxRecDepth 100000 in
theorem w_corks (l : Launch) (hlt : l.stackTraces = false) (g : he_G) (x0 m0 o0 : Nat) (Sx Sm : AbS) (t : Int32) (fo : Nat → Int64) (W : va_W) (x_ : Int32) (y_ : Int32) (hI : IL g x0 m0 o0 Sx Sm t fo W) : he_IN l yL_corks wsL_corks 8 125 1 6 g [.ref x0, .int x_, .int y_, .ref o0] W (fun (r : Int32) (W2 : va_W) => ∃ fo2 : Nat → Int64, IL g x0 m0 o0 (sp_corks Sx x_ y_).2.2 Sm t fo2 W2 ∧ r = (sp_corks Sx x_ y_).1 ∧ ((sp_corks Sx x_ y_).1 = 0 → fo2 0 = Int32.toInt64 (sp_corks Sx x_ y_).2.1)) (fun W2 => W2) := by
  obtain ⟨fx, fm, Rc, Rm, rfl, hc, hm⟩ := hI
  refine he_beginHN (l := l) (g := g) (y := yL_corks) (wl := wsL_corks) (fr := 8) (lo := 125) (mc := 1) (ms := 6) (av := [.ref x0, .int x_, .int y_, .ref o0]) (ws := [(x0, .inr (9, fx)), (m0, .inr (10, fm)), (aL g o0 1 fo)] ++ (Rc ++ Rm)) (cc := cL_corks) (maxL := 5) (ret := (some .int)) (hh := [(0, 10, 13, 25), (0, 10, 17, 13)]) (fun A => va_Qi (fun (r : Int32) (W2 : va_W) => ∃ fo2 : Nat → Int64, IL g x0 m0 o0 (sp_corks Sx x_ y_).2.2 Sm t fo2 W2 ∧ r = (sp_corks Sx x_ y_).1 ∧ ((sp_corks Sx x_ y_).1 = 0 → fo2 0 = Int32.toInt64 (sp_corks Sx x_ y_).2.1)) (fun u t => he_post g A ((fun (W2 : va_W) => W2) u) t) A) (by decide) rfl (Nat.le_of_ble_eq_true rfl) ?_
  intro p e s m args below meth c A ls H locs Q hQ htab hNc hB
  obtain ⟨hx, hb, hr, hml, hown, hts, hlk, hin, hP, hK, hD, hS, hA, hE, hl⟩ := hB
  have hl : lv_has ls 5 [(0, .ref x0), (1, .int x_), (2, .int y_), (3, .ref o0)] := hl
  have cl25 := hts (.classLink RL 25 "java/lang/IndexOutOfBoundsException") (by decide +kernel)
  have cl13 := hts (.classLink RL 13 "java/lang/IllegalArgumentException") (by decide +kernel)
  refine lv_aload_n hx hb dL_corks_0 rfl (lv_at hl 3 rfl) ?_
  refine lv_iconst (v := 0) hx hb dL_corks_1 (by decide) ?_
  refine lv_aload_n hx hb dL_corks_2 rfl (lv_at hl 0 rfl) ?_
  refine lv_iload_n hx hb dL_corks_3 rfl (lv_at hl 1 rfl) ?_
  refine lv_iload_n hx hb dL_corks_4 rfl (lv_at hl 2 rfl) ?_
  rcases k_corks l hlt g x0 Sx _ x_ y_ hc with ⟨hcd, h9⟩ | ⟨hcd, W9, hI9, h9⟩ | ⟨hcd, W9, hI9, h9⟩
  · refine he_ci (wc := ([(x0, .inr (9, fx)), (m0, .inr (10, fm)), (aL g o0 1 fo)] ++ (Rc ++ Rm))) (wr := []) (va_runV (As := [.int x_, .int y_]) (rest := [.int 0, .ref o0]) ⟨hx, hb, hml, hown, hts⟩ (il_cI h9 hm H.size) (cwV 2 hts gL_corks_X10_corks rfl rfl rfl (by decide +kernel) ⟨Nat.le_of_ble_eq_true rfl, Nat.le_of_ble_eq_true rfl⟩) (he_preV (wc := ([(x0, .inr (9, fx)), (m0, .inr (10, fm)), (aL g o0 1 fo)] ++ (Rc ++ Rm))) hK hP hD hS hA hE (List.range (([(x0, .inr (9, fx)), (m0, .inr (10, fm)), (aL g o0 1 fo)] ++ (Rc ++ Rm)) : va_W).length) (he_all _) (he_allnd _) 0 rfl rfl) rfl rfl hl.1 rfl (lv_room (Nat.le_of_ble_eq_true rfl)) dL_corks_5 ⟨(Nat.le_of_ble_eq_true rfl), (Nat.le_of_ble_eq_true rfl)⟩) hP hD hS hA (List.range (([(x0, .inr (9, fx)), (m0, .inr (10, fm)), (aL g o0 1 fo)] ++ (Rc ++ Rm)) : va_W).length) [] (he_all _) rfl rfl (fun _ h9 => absurd h9 List.not_mem_nil) (fun r_1 u_2 H locs hu_3 hP hD hS => ?_)
    obtain ⟨hI9, hp5⟩ := hu_3
    obtain ⟨fx_q_4, fm_q_4, Rc_q_4, Rm_q_4, rfl, hc, hm⟩ := hI9
    have hP : va_P g.1 vwCl ([(x0, .inr (9, fx_q_4)), (m0, .inr (10, fm_q_4)), (aL g o0 1 fo)] ++ (Rc_q_4 ++ Rm_q_4)) H := hP
    have hD : va_D A ([(x0, .inr (9, fx_q_4)), (m0, .inr (10, fm_q_4)), (aL g o0 1 fo)] ++ (Rc_q_4 ++ Rm_q_4)) := hD
    refine lv_i2l (v := Int32.toInt64 r_1) hx hb dL_corks_8 rfl ?_
    refine he_last hx hb hK hP hD hS 2 rfl 0 (by decide) (by decide) (by decide) dL_corks_9 (fun H locs hP hD hS => ?_)
    have hP : va_P g.1 vwCl ([(x0, .inr (9, fx_q_4)), (m0, .inr (10, fm_q_4)), (aL g o0 1 (vp_updL fo 0 (Int32.toInt64 r_1)))] ++ (Rc_q_4 ++ Rm_q_4)) H := hP
    have hD : va_D A ([(x0, .inr (9, fx_q_4)), (m0, .inr (10, fm_q_4)), (aL g o0 1 (vp_updL fo 0 (Int32.toInt64 r_1)))] ++ (Rc_q_4 ++ Rm_q_4)) := hD
    refine lv_goto (tgt := 21) hx hb dL_corks_10 (by decide) ?_
    refine lv_iconst (v := 0) hx hb dL_corks_21 (by decide) ?_
    exact he_ri hQ hx hb hr hlk hP hD hS dL_corks_22 (Nat.le_of_ble_eq_true rfl) (Nat.le_of_ble_eq_true rfl) ([(x0, .inr (9, fx_q_4)), (m0, .inr (10, fm_q_4)), (aL g o0 1 (vp_updL fo 0 (Int32.toInt64 r_1)))] ++ (Rc_q_4 ++ Rm_q_4)) rfl ⟨(vp_updL fo 0 (Int32.toInt64 r_1)), ⟨_, _, _, _, rfl, hc, hm⟩, hcd.symm, fun _ => (by rw [show (vp_updL fo 0 (Int32.toInt64 r_1)) 0 = _ from vp_updL_s _ _ _]; exact (congrArg Int32.toInt64 hp5))⟩
  · obtain ⟨W8, hI8, h8⟩ := il_Ti (o0 := o0) (fo := fo) h9 hI9 hm
    refine he_xi (En := "java/lang/IndexOutOfBoundsException") (wx := W8) (wc := ([(x0, .inr (9, fx)), (m0, .inr (10, fm)), (aL g o0 1 fo)] ++ (Rc ++ Rm))) (wr := []) (vx_runV (As := [.int x_, .int y_]) (rest := [.int 0, .ref o0]) ⟨hx, hb, hml, hown, hts⟩ (h8 H.size) (cwV 2 hts gL_corks_X10_corks rfl rfl rfl (by decide +kernel) ⟨Nat.le_of_ble_eq_true rfl, Nat.le_of_ble_eq_true rfl⟩) (he_preV (wc := ([(x0, .inr (9, fx)), (m0, .inr (10, fm)), (aL g o0 1 fo)] ++ (Rc ++ Rm))) hK hP hD hS hA hE (List.range (([(x0, .inr (9, fx)), (m0, .inr (10, fm)), (aL g o0 1 fo)] ++ (Rc ++ Rm)) : va_W).length) (he_all _) (he_allnd _) 0 rfl rfl) rfl rfl hl.1 rfl (lv_room (Nat.le_of_ble_eq_true rfl)) dL_corks_5 ⟨(Nat.le_of_ble_eq_true rfl), (Nat.le_of_ble_eq_true rfl)⟩) hP hD hS hA (List.range (([(x0, .inr (9, fx)), (m0, .inr (10, fm)), (aL g o0 1 fo)] ++ (Rc ++ Rm)) : va_W).length) [] (he_all _) rfl rfl (fun _ h9 => absurd h9 List.not_mem_nil) (fun ce q9 H locs hP hD hS hce hcv hcl => ?_)
    obtain ⟨fx_q_5, fm_q_5, Rc_q_5, Rm_q_5, rfl, hc, hm⟩ := hI8
    have hP : va_P g.1 vwCl ([(x0, .inr (9, fx_q_5)), (m0, .inr (10, fm_q_5)), (aL g o0 1 fo)] ++ (Rc_q_5 ++ Rm_q_5)) H := hP
    have hD : va_D A ([(x0, .inr (9, fx_q_5)), (m0, .inr (10, fm_q_5)), (aL g o0 1 fo)] ++ (Rc_q_5 ++ Rm_q_5)) := hD
    refine vx_catch (name := "java/lang/IndexOutOfBoundsException") (E := "java/lang/IndexOutOfBoundsException") hown [] ⟨0, 10, 13, 25⟩ [⟨0, 10, 17, 13⟩] htab (fun z h9 => nomatch h9) (by decide) (by decide) cl25 (va_Nw.use rfl (hE.cast ("java/lang/IndexOutOfBoundsException", "java/lang/IndexOutOfBoundsException") (by decide))) hce hcv hcl ?_
    refine W.widen (k := 1) (n := 6) (Nat.le_of_ble_eq_true rfl) (Nat.le_of_ble_eq_true rfl) ?_
    refine lv_astore (lv' := [(4, .ref q9), (0, .ref x0), (1, .int x_), (2, .int y_), (3, .ref o0)]) hx hb dL_corks_13 hl (by decide) rfl (fun ls hl => ?_)
    refine lv_iconst (v := 1) hx hb dL_corks_15 (by decide) ?_
    exact he_ri hQ hx hb hr hlk hP hD hS dL_corks_16 (Nat.le_of_ble_eq_true rfl) (Nat.le_of_ble_eq_true rfl) ([(x0, .inr (9, fx_q_5)), (m0, .inr (10, fm_q_5)), (aL g o0 1 fo)] ++ (Rc_q_5 ++ Rm_q_5)) rfl ⟨fo, ⟨_, _, _, _, rfl, hc, hm⟩, hcd.symm, fun h9 => absurd (hcd.symm.trans h9) (by decide)⟩
  · obtain ⟨W8, hI8, h8⟩ := il_Ti (o0 := o0) (fo := fo) h9 hI9 hm
    refine he_xi (En := "java/lang/IllegalArgumentException") (wx := W8) (wc := ([(x0, .inr (9, fx)), (m0, .inr (10, fm)), (aL g o0 1 fo)] ++ (Rc ++ Rm))) (wr := []) (vx_runV (As := [.int x_, .int y_]) (rest := [.int 0, .ref o0]) ⟨hx, hb, hml, hown, hts⟩ (h8 H.size) (cwV 2 hts gL_corks_X10_corks rfl rfl rfl (by decide +kernel) ⟨Nat.le_of_ble_eq_true rfl, Nat.le_of_ble_eq_true rfl⟩) (he_preV (wc := ([(x0, .inr (9, fx)), (m0, .inr (10, fm)), (aL g o0 1 fo)] ++ (Rc ++ Rm))) hK hP hD hS hA hE (List.range (([(x0, .inr (9, fx)), (m0, .inr (10, fm)), (aL g o0 1 fo)] ++ (Rc ++ Rm)) : va_W).length) (he_all _) (he_allnd _) 0 rfl rfl) rfl rfl hl.1 rfl (lv_room (Nat.le_of_ble_eq_true rfl)) dL_corks_5 ⟨(Nat.le_of_ble_eq_true rfl), (Nat.le_of_ble_eq_true rfl)⟩) hP hD hS hA (List.range (([(x0, .inr (9, fx)), (m0, .inr (10, fm)), (aL g o0 1 fo)] ++ (Rc ++ Rm)) : va_W).length) [] (he_all _) rfl rfl (fun _ h9 => absurd h9 List.not_mem_nil) (fun ce q9 H locs hP hD hS hce hcv hcl => ?_)
    obtain ⟨fx_q_6, fm_q_6, Rc_q_6, Rm_q_6, rfl, hc, hm⟩ := hI8
    have hP : va_P g.1 vwCl ([(x0, .inr (9, fx_q_6)), (m0, .inr (10, fm_q_6)), (aL g o0 1 fo)] ++ (Rc_q_6 ++ Rm_q_6)) H := hP
    have hD : va_D A ([(x0, .inr (9, fx_q_6)), (m0, .inr (10, fm_q_6)), (aL g o0 1 fo)] ++ (Rc_q_6 ++ Rm_q_6)) := hD
    refine vx_catch (name := "java/lang/IllegalArgumentException") (E := "java/lang/IllegalArgumentException") hown [⟨0, 10, 13, 25⟩] ⟨0, 10, 17, 13⟩ [] htab (fun z h9 => by obtain rfl := List.mem_singleton.mp h9; exact Or.inr ⟨by decide, "java/lang/IndexOutOfBoundsException", cl25, hNc⟩) (by decide) (by decide) cl13 (va_Nw.use rfl (hE.cast ("java/lang/IllegalArgumentException", "java/lang/IllegalArgumentException") (by decide))) hce hcv hcl ?_
    refine W.widen (k := 1) (n := 6) (Nat.le_of_ble_eq_true rfl) (Nat.le_of_ble_eq_true rfl) ?_
    refine lv_astore (lv' := [(4, .ref q9), (0, .ref x0), (1, .int x_), (2, .int y_), (3, .ref o0)]) hx hb dL_corks_17 hl (by decide) rfl (fun ls hl => ?_)
    refine lv_iconst (v := 2) hx hb dL_corks_19 (by decide) ?_
    exact he_ri hQ hx hb hr hlk hP hD hS dL_corks_20 (Nat.le_of_ble_eq_true rfl) (Nat.le_of_ble_eq_true rfl) ([(x0, .inr (9, fx_q_6)), (m0, .inr (10, fm_q_6)), (aL g o0 1 fo)] ++ (Rc_q_6 ++ Rm_q_6)) rfl ⟨fo, ⟨_, _, _, _, rfl, hc, hm⟩, hcd.symm, fun h9 => absurd (hcd.symm.trans h9) (by decide)⟩
set_option maxHeartbeats 8000000 in
set_option maxRecDepth 100000 in
theorem w_would (l : Launch) (hlt : l.stackTraces = false) (g : he_G) (x0 m0 o0 : Nat) (Sx Sm : AbS) (t : Int32) (fo : Nat → Int64) (W : va_W) (x_ : Int32) (y_ : Int32) (z_ : Int32) (hI : IL g x0 m0 o0 Sx Sm t fo W) : he_I l yL_would wsL_would 9 177 1 6 g [.ref x0, .int x_, .int y_, .int z_, .ref o0] W (fun (r : Int32) (W2 : va_W) => ∃ fo2 : Nat → Int64, IL g x0 m0 o0 (sp_would Sx x_ y_ z_).2.2 Sm t fo2 W2 ∧ r = (sp_would Sx x_ y_ z_).1 ∧ True) (fun W2 => W2) := by
  obtain ⟨fx, fm, Rc, Rm, rfl, hc, hm⟩ := hI
  refine he_beginH (l := l) (g := g) (y := yL_would) (wl := wsL_would) (fr := 9) (lo := 177) (mc := 1) (ms := 6) (av := [.ref x0, .int x_, .int y_, .int z_, .ref o0]) (ws := [(x0, .inr (9, fx)), (m0, .inr (10, fm)), (aL g o0 1 fo)] ++ (Rc ++ Rm)) (cc := cL_would) (maxL := 6) (ret := (some .int)) (hh := [(0, 12, 15, 30), (0, 12, 19, 13)]) (fun A => va_Qi (fun (r : Int32) (W2 : va_W) => ∃ fo2 : Nat → Int64, IL g x0 m0 o0 (sp_would Sx x_ y_ z_).2.2 Sm t fo2 W2 ∧ r = (sp_would Sx x_ y_ z_).1 ∧ True) (fun u t => he_post g A ((fun (W2 : va_W) => W2) u) t) A) (by decide) rfl (Nat.le_of_ble_eq_true rfl) ?_
  intro p e s m args below meth c A ls H locs Q hQ htab hB
  obtain ⟨hx, hb, hr, hml, hown, hts, hlk, hin, hP, hK, hD, hS, hA, hE, hl⟩ := hB
  have hl : lv_has ls 6 [(0, .ref x0), (1, .int x_), (2, .int y_), (3, .int z_), (4, .ref o0)] := hl
  have cl30 := hts (.classLink RL 30 "java/util/NoSuchElementException") (by decide +kernel)
  have cl13 := hts (.classLink RL 13 "java/lang/IllegalArgumentException") (by decide +kernel)
  refine lv_aload hx hb dL_would_0 (lv_at hl 4 rfl) ?_
  refine lv_iconst (v := 0) hx hb dL_would_2 (by decide) ?_
  refine lv_aload_n hx hb dL_would_3 rfl (lv_at hl 0 rfl) ?_
  refine lv_iload_n hx hb dL_would_4 rfl (lv_at hl 1 rfl) ?_
  refine lv_iload_n hx hb dL_would_5 rfl (lv_at hl 2 rfl) ?_
  refine lv_iload_n hx hb dL_would_6 rfl (lv_at hl 3 rfl) ?_
  rcases k_would l hlt g x0 Sx _ x_ y_ z_ hc with ⟨hcd, h9⟩ | ⟨hcd, W9, hI9, h9⟩ | ⟨hcd, W9, hI9, h9⟩
  · refine he_ci (wc := ([(x0, .inr (9, fx)), (m0, .inr (10, fm)), (aL g o0 1 fo)] ++ (Rc ++ Rm))) (wr := []) (va_runV (As := [.int x_, .int y_, .int z_]) (rest := [.int 0, .ref o0]) ⟨hx, hb, hml, hown, hts⟩ (il_cI h9 hm H.size) (cwV 3 hts gL_would_X10_would rfl rfl rfl (by decide +kernel) ⟨Nat.le_of_ble_eq_true rfl, Nat.le_of_ble_eq_true rfl⟩) (he_preV (wc := ([(x0, .inr (9, fx)), (m0, .inr (10, fm)), (aL g o0 1 fo)] ++ (Rc ++ Rm))) hK hP hD hS hA hE (List.range (([(x0, .inr (9, fx)), (m0, .inr (10, fm)), (aL g o0 1 fo)] ++ (Rc ++ Rm)) : va_W).length) (he_all _) (he_allnd _) 0 rfl rfl) rfl rfl hl.1 rfl (lv_room (Nat.le_of_ble_eq_true rfl)) dL_would_7 ⟨(Nat.le_of_ble_eq_true rfl), (Nat.le_of_ble_eq_true rfl)⟩) hP hD hS hA (List.range (([(x0, .inr (9, fx)), (m0, .inr (10, fm)), (aL g o0 1 fo)] ++ (Rc ++ Rm)) : va_W).length) [] (he_all _) rfl rfl (fun _ h9 => absurd h9 List.not_mem_nil) (fun r_1 u_2 H locs hu_3 hP hD hS => ?_)
    obtain ⟨hI9, hp7⟩ := hu_3
    obtain ⟨fx_q_4, fm_q_4, Rc_q_4, Rm_q_4, rfl, hc, hm⟩ := hI9
    have hP : va_P g.1 vwCl ([(x0, .inr (9, fx_q_4)), (m0, .inr (10, fm_q_4)), (aL g o0 1 fo)] ++ (Rc_q_4 ++ Rm_q_4)) H := hP
    have hD : va_D A ([(x0, .inr (9, fx_q_4)), (m0, .inr (10, fm_q_4)), (aL g o0 1 fo)] ++ (Rc_q_4 ++ Rm_q_4)) := hD
    refine lv_i2l (v := Int32.toInt64 r_1) hx hb dL_would_10 rfl ?_
    refine he_last hx hb hK hP hD hS 2 rfl 0 (by decide) (by decide) (by decide) dL_would_11 (fun H locs hP hD hS => ?_)
    have hP : va_P g.1 vwCl ([(x0, .inr (9, fx_q_4)), (m0, .inr (10, fm_q_4)), (aL g o0 1 (vp_updL fo 0 (Int32.toInt64 r_1)))] ++ (Rc_q_4 ++ Rm_q_4)) H := hP
    have hD : va_D A ([(x0, .inr (9, fx_q_4)), (m0, .inr (10, fm_q_4)), (aL g o0 1 (vp_updL fo 0 (Int32.toInt64 r_1)))] ++ (Rc_q_4 ++ Rm_q_4)) := hD
    refine lv_goto (tgt := 23) hx hb dL_would_12 (by decide) ?_
    refine lv_iconst (v := 0) hx hb dL_would_23 (by decide) ?_
    exact he_ri hQ hx hb hr hlk hP hD hS dL_would_24 (Nat.le_of_ble_eq_true rfl) (Nat.le_of_ble_eq_true rfl) ([(x0, .inr (9, fx_q_4)), (m0, .inr (10, fm_q_4)), (aL g o0 1 (vp_updL fo 0 (Int32.toInt64 r_1)))] ++ (Rc_q_4 ++ Rm_q_4)) rfl ⟨(vp_updL fo 0 (Int32.toInt64 r_1)), ⟨_, _, _, _, rfl, hc, hm⟩, hcd.symm, trivial⟩
  · obtain ⟨W8, hI8, h8⟩ := il_Ti (o0 := o0) (fo := fo) h9 hI9 hm
    refine he_xi (En := "java/util/NoSuchElementException") (wx := W8) (wc := ([(x0, .inr (9, fx)), (m0, .inr (10, fm)), (aL g o0 1 fo)] ++ (Rc ++ Rm))) (wr := []) (vx_runV (As := [.int x_, .int y_, .int z_]) (rest := [.int 0, .ref o0]) ⟨hx, hb, hml, hown, hts⟩ (h8 H.size) (cwV 3 hts gL_would_X10_would rfl rfl rfl (by decide +kernel) ⟨Nat.le_of_ble_eq_true rfl, Nat.le_of_ble_eq_true rfl⟩) (he_preV (wc := ([(x0, .inr (9, fx)), (m0, .inr (10, fm)), (aL g o0 1 fo)] ++ (Rc ++ Rm))) hK hP hD hS hA hE (List.range (([(x0, .inr (9, fx)), (m0, .inr (10, fm)), (aL g o0 1 fo)] ++ (Rc ++ Rm)) : va_W).length) (he_all _) (he_allnd _) 0 rfl rfl) rfl rfl hl.1 rfl (lv_room (Nat.le_of_ble_eq_true rfl)) dL_would_7 ⟨(Nat.le_of_ble_eq_true rfl), (Nat.le_of_ble_eq_true rfl)⟩) hP hD hS hA (List.range (([(x0, .inr (9, fx)), (m0, .inr (10, fm)), (aL g o0 1 fo)] ++ (Rc ++ Rm)) : va_W).length) [] (he_all _) rfl rfl (fun _ h9 => absurd h9 List.not_mem_nil) (fun ce q9 H locs hP hD hS hce hcv hcl => ?_)
    obtain ⟨fx_q_5, fm_q_5, Rc_q_5, Rm_q_5, rfl, hc, hm⟩ := hI8
    have hP : va_P g.1 vwCl ([(x0, .inr (9, fx_q_5)), (m0, .inr (10, fm_q_5)), (aL g o0 1 fo)] ++ (Rc_q_5 ++ Rm_q_5)) H := hP
    have hD : va_D A ([(x0, .inr (9, fx_q_5)), (m0, .inr (10, fm_q_5)), (aL g o0 1 fo)] ++ (Rc_q_5 ++ Rm_q_5)) := hD
    refine vx_catch (name := "java/util/NoSuchElementException") (E := "java/util/NoSuchElementException") hown [] ⟨0, 12, 15, 30⟩ [⟨0, 12, 19, 13⟩] htab (fun z h9 => nomatch h9) (by decide) (by decide) cl30 (va_Nw.use rfl (hE.cast ("java/util/NoSuchElementException", "java/util/NoSuchElementException") (by decide))) hce hcv hcl ?_
    refine W.widen (k := 1) (n := 6) (Nat.le_of_ble_eq_true rfl) (Nat.le_of_ble_eq_true rfl) ?_
    refine lv_astore (lv' := [(5, .ref q9), (0, .ref x0), (1, .int x_), (2, .int y_), (3, .int z_), (4, .ref o0)]) hx hb dL_would_15 hl (by decide) rfl (fun ls hl => ?_)
    refine lv_iconst (v := 1) hx hb dL_would_17 (by decide) ?_
    exact he_ri hQ hx hb hr hlk hP hD hS dL_would_18 (Nat.le_of_ble_eq_true rfl) (Nat.le_of_ble_eq_true rfl) ([(x0, .inr (9, fx_q_5)), (m0, .inr (10, fm_q_5)), (aL g o0 1 fo)] ++ (Rc_q_5 ++ Rm_q_5)) rfl ⟨fo, ⟨_, _, _, _, rfl, hc, hm⟩, hcd.symm, trivial⟩
  · obtain ⟨W8, hI8, h8⟩ := il_Ti (o0 := o0) (fo := fo) h9 hI9 hm
    refine he_xi (En := "java/lang/IllegalArgumentException") (wx := W8) (wc := ([(x0, .inr (9, fx)), (m0, .inr (10, fm)), (aL g o0 1 fo)] ++ (Rc ++ Rm))) (wr := []) (vx_runV (As := [.int x_, .int y_, .int z_]) (rest := [.int 0, .ref o0]) ⟨hx, hb, hml, hown, hts⟩ (h8 H.size) (cwV 3 hts gL_would_X10_would rfl rfl rfl (by decide +kernel) ⟨Nat.le_of_ble_eq_true rfl, Nat.le_of_ble_eq_true rfl⟩) (he_preV (wc := ([(x0, .inr (9, fx)), (m0, .inr (10, fm)), (aL g o0 1 fo)] ++ (Rc ++ Rm))) hK hP hD hS hA hE (List.range (([(x0, .inr (9, fx)), (m0, .inr (10, fm)), (aL g o0 1 fo)] ++ (Rc ++ Rm)) : va_W).length) (he_all _) (he_allnd _) 0 rfl rfl) rfl rfl hl.1 rfl (lv_room (Nat.le_of_ble_eq_true rfl)) dL_would_7 ⟨(Nat.le_of_ble_eq_true rfl), (Nat.le_of_ble_eq_true rfl)⟩) hP hD hS hA (List.range (([(x0, .inr (9, fx)), (m0, .inr (10, fm)), (aL g o0 1 fo)] ++ (Rc ++ Rm)) : va_W).length) [] (he_all _) rfl rfl (fun _ h9 => absurd h9 List.not_mem_nil) (fun ce q9 H locs hP hD hS hce hcv hcl => ?_)
    obtain ⟨fx_q_6, fm_q_6, Rc_q_6, Rm_q_6, rfl, hc, hm⟩ := hI8
    have hP : va_P g.1 vwCl ([(x0, .inr (9, fx_q_6)), (m0, .inr (10, fm_q_6)), (aL g o0 1 fo)] ++ (Rc_q_6 ++ Rm_q_6)) H := hP
    have hD : va_D A ([(x0, .inr (9, fx_q_6)), (m0, .inr (10, fm_q_6)), (aL g o0 1 fo)] ++ (Rc_q_6 ++ Rm_q_6)) := hD
    refine vx_catch (name := "java/lang/IllegalArgumentException") (E := "java/lang/IllegalArgumentException") hown [⟨0, 12, 15, 30⟩] ⟨0, 12, 19, 13⟩ [] htab (fun z h9 => by obtain rfl := List.mem_singleton.mp h9; exact Or.inr ⟨by decide, "java/util/NoSuchElementException", cl30, hE.nc⟩) (by decide) (by decide) cl13 (va_Nw.use rfl (hE.cast ("java/lang/IllegalArgumentException", "java/lang/IllegalArgumentException") (by decide))) hce hcv hcl ?_
    refine W.widen (k := 1) (n := 6) (Nat.le_of_ble_eq_true rfl) (Nat.le_of_ble_eq_true rfl) ?_
    refine lv_astore (lv' := [(5, .ref q9), (0, .ref x0), (1, .int x_), (2, .int y_), (3, .int z_), (4, .ref o0)]) hx hb dL_would_19 hl (by decide) rfl (fun ls hl => ?_)
    refine lv_iconst (v := 2) hx hb dL_would_21 (by decide) ?_
    exact he_ri hQ hx hb hr hlk hP hD hS dL_would_22 (Nat.le_of_ble_eq_true rfl) (Nat.le_of_ble_eq_true rfl) ([(x0, .inr (9, fx_q_6)), (m0, .inr (10, fm_q_6)), (aL g o0 1 fo)] ++ (Rc_q_6 ++ Rm_q_6)) rfl ⟨fo, ⟨_, _, _, _, rfl, hc, hm⟩, hcd.symm, trivial⟩
set_option maxHeartbeats 8000000 in
set_option maxRecDepth 100000 in
theorem w_best (l : Launch) (hlt : l.stackTraces = false) (g : he_G) (x0 m0 o0 : Nat) (Sx Sm : AbS) (t : Int32) (fo : Nat → Int64) (W : va_W) (x_ : Int32) (y_ : Int32) (hI : IL g x0 m0 o0 Sx Sm t fo W) : he_I l yL_best wsL_best 8 180 1 6 g [.ref x0, .int x_, .int y_, .ref o0] W (fun (r : Int32) (W2 : va_W) => ∃ fo2 : Nat → Int64, IL g x0 m0 o0 (sp_best Sx x_ y_).2.2 Sm t fo2 W2 ∧ r = (sp_best Sx x_ y_).1 ∧ True) (fun W2 => W2) := by
  obtain ⟨fx, fm, Rc, Rm, rfl, hc, hm⟩ := hI
  refine he_beginH (l := l) (g := g) (y := yL_best) (wl := wsL_best) (fr := 8) (lo := 180) (mc := 1) (ms := 6) (av := [.ref x0, .int x_, .int y_, .ref o0]) (ws := [(x0, .inr (9, fx)), (m0, .inr (10, fm)), (aL g o0 1 fo)] ++ (Rc ++ Rm)) (cc := cL_best) (maxL := 5) (ret := (some .int)) (hh := [(0, 10, 13, 13)]) (fun A => va_Qi (fun (r : Int32) (W2 : va_W) => ∃ fo2 : Nat → Int64, IL g x0 m0 o0 (sp_best Sx x_ y_).2.2 Sm t fo2 W2 ∧ r = (sp_best Sx x_ y_).1 ∧ True) (fun u t => he_post g A ((fun (W2 : va_W) => W2) u) t) A) (by decide) rfl (Nat.le_of_ble_eq_true rfl) ?_
  intro p e s m args below meth c A ls H locs Q hQ htab hB
  obtain ⟨hx, hb, hr, hml, hown, hts, hlk, hin, hP, hK, hD, hS, hA, hE, hl⟩ := hB
  have hl : lv_has ls 5 [(0, .ref x0), (1, .int x_), (2, .int y_), (3, .ref o0)] := hl
  have cl13 := hts (.classLink RL 13 "java/lang/IllegalArgumentException") (by decide +kernel)
  refine lv_aload_n hx hb dL_best_0 rfl (lv_at hl 3 rfl) ?_
  refine lv_iconst (v := 0) hx hb dL_best_1 (by decide) ?_
  refine lv_aload_n hx hb dL_best_2 rfl (lv_at hl 0 rfl) ?_
  refine lv_iload_n hx hb dL_best_3 rfl (lv_at hl 1 rfl) ?_
  refine lv_iload_n hx hb dL_best_4 rfl (lv_at hl 2 rfl) ?_
  rcases k_best l hlt g x0 Sx _ x_ y_ hc with ⟨hcd, h9⟩ | ⟨hcd, W9, hI9, h9⟩
  · refine he_ci (wc := ([(x0, .inr (9, fx)), (m0, .inr (10, fm)), (aL g o0 1 fo)] ++ (Rc ++ Rm))) (wr := []) (va_runV (As := [.int x_, .int y_]) (rest := [.int 0, .ref o0]) ⟨hx, hb, hml, hown, hts⟩ (il_cI h9 hm H.size) (cwV 2 hts gL_best_X10_best rfl rfl rfl (by decide +kernel) ⟨Nat.le_of_ble_eq_true rfl, Nat.le_of_ble_eq_true rfl⟩) (he_preV (wc := ([(x0, .inr (9, fx)), (m0, .inr (10, fm)), (aL g o0 1 fo)] ++ (Rc ++ Rm))) hK hP hD hS hA hE (List.range (([(x0, .inr (9, fx)), (m0, .inr (10, fm)), (aL g o0 1 fo)] ++ (Rc ++ Rm)) : va_W).length) (he_all _) (he_allnd _) 0 rfl rfl) rfl rfl hl.1 rfl (lv_room (Nat.le_of_ble_eq_true rfl)) dL_best_5 ⟨(Nat.le_of_ble_eq_true rfl), (Nat.le_of_ble_eq_true rfl)⟩) hP hD hS hA (List.range (([(x0, .inr (9, fx)), (m0, .inr (10, fm)), (aL g o0 1 fo)] ++ (Rc ++ Rm)) : va_W).length) [] (he_all _) rfl rfl (fun _ h9 => absurd h9 List.not_mem_nil) (fun r_1 u_2 H locs hu_3 hP hD hS => ?_)
    obtain ⟨hI9, hp5⟩ := hu_3
    obtain ⟨fx_q_4, fm_q_4, Rc_q_4, Rm_q_4, rfl, hc, hm⟩ := hI9
    have hP : va_P g.1 vwCl ([(x0, .inr (9, fx_q_4)), (m0, .inr (10, fm_q_4)), (aL g o0 1 fo)] ++ (Rc_q_4 ++ Rm_q_4)) H := hP
    have hD : va_D A ([(x0, .inr (9, fx_q_4)), (m0, .inr (10, fm_q_4)), (aL g o0 1 fo)] ++ (Rc_q_4 ++ Rm_q_4)) := hD
    refine lv_i2l (v := Int32.toInt64 r_1) hx hb dL_best_8 rfl ?_
    refine he_last hx hb hK hP hD hS 2 rfl 0 (by decide) (by decide) (by decide) dL_best_9 (fun H locs hP hD hS => ?_)
    have hP : va_P g.1 vwCl ([(x0, .inr (9, fx_q_4)), (m0, .inr (10, fm_q_4)), (aL g o0 1 (vp_updL fo 0 (Int32.toInt64 r_1)))] ++ (Rc_q_4 ++ Rm_q_4)) H := hP
    have hD : va_D A ([(x0, .inr (9, fx_q_4)), (m0, .inr (10, fm_q_4)), (aL g o0 1 (vp_updL fo 0 (Int32.toInt64 r_1)))] ++ (Rc_q_4 ++ Rm_q_4)) := hD
    refine lv_goto (tgt := 17) hx hb dL_best_10 (by decide) ?_
    refine lv_iconst (v := 0) hx hb dL_best_17 (by decide) ?_
    exact he_ri hQ hx hb hr hlk hP hD hS dL_best_18 (Nat.le_of_ble_eq_true rfl) (Nat.le_of_ble_eq_true rfl) ([(x0, .inr (9, fx_q_4)), (m0, .inr (10, fm_q_4)), (aL g o0 1 (vp_updL fo 0 (Int32.toInt64 r_1)))] ++ (Rc_q_4 ++ Rm_q_4)) rfl ⟨(vp_updL fo 0 (Int32.toInt64 r_1)), ⟨_, _, _, _, rfl, hc, hm⟩, hcd.symm, trivial⟩
  · obtain ⟨W8, hI8, h8⟩ := il_Ti (o0 := o0) (fo := fo) h9 hI9 hm
    refine he_xi (En := "java/lang/IllegalArgumentException") (wx := W8) (wc := ([(x0, .inr (9, fx)), (m0, .inr (10, fm)), (aL g o0 1 fo)] ++ (Rc ++ Rm))) (wr := []) (vx_runV (As := [.int x_, .int y_]) (rest := [.int 0, .ref o0]) ⟨hx, hb, hml, hown, hts⟩ (h8 H.size) (cwV 2 hts gL_best_X10_best rfl rfl rfl (by decide +kernel) ⟨Nat.le_of_ble_eq_true rfl, Nat.le_of_ble_eq_true rfl⟩) (he_preV (wc := ([(x0, .inr (9, fx)), (m0, .inr (10, fm)), (aL g o0 1 fo)] ++ (Rc ++ Rm))) hK hP hD hS hA hE (List.range (([(x0, .inr (9, fx)), (m0, .inr (10, fm)), (aL g o0 1 fo)] ++ (Rc ++ Rm)) : va_W).length) (he_all _) (he_allnd _) 0 rfl rfl) rfl rfl hl.1 rfl (lv_room (Nat.le_of_ble_eq_true rfl)) dL_best_5 ⟨(Nat.le_of_ble_eq_true rfl), (Nat.le_of_ble_eq_true rfl)⟩) hP hD hS hA (List.range (([(x0, .inr (9, fx)), (m0, .inr (10, fm)), (aL g o0 1 fo)] ++ (Rc ++ Rm)) : va_W).length) [] (he_all _) rfl rfl (fun _ h9 => absurd h9 List.not_mem_nil) (fun ce q9 H locs hP hD hS hce hcv hcl => ?_)
    obtain ⟨fx_q_5, fm_q_5, Rc_q_5, Rm_q_5, rfl, hc, hm⟩ := hI8
    have hP : va_P g.1 vwCl ([(x0, .inr (9, fx_q_5)), (m0, .inr (10, fm_q_5)), (aL g o0 1 fo)] ++ (Rc_q_5 ++ Rm_q_5)) H := hP
    have hD : va_D A ([(x0, .inr (9, fx_q_5)), (m0, .inr (10, fm_q_5)), (aL g o0 1 fo)] ++ (Rc_q_5 ++ Rm_q_5)) := hD
    refine vx_catch (name := "java/lang/IllegalArgumentException") (E := "java/lang/IllegalArgumentException") hown [] ⟨0, 10, 13, 13⟩ [] htab (fun z h9 => nomatch h9) (by decide) (by decide) cl13 (va_Nw.use rfl (hE.cast ("java/lang/IllegalArgumentException", "java/lang/IllegalArgumentException") (by decide))) hce hcv hcl ?_
    refine W.widen (k := 1) (n := 6) (Nat.le_of_ble_eq_true rfl) (Nat.le_of_ble_eq_true rfl) ?_
    refine lv_astore (lv' := [(4, .ref q9), (0, .ref x0), (1, .int x_), (2, .int y_), (3, .ref o0)]) hx hb dL_best_13 hl (by decide) rfl (fun ls hl => ?_)
    refine lv_iconst (v := 1) hx hb dL_best_15 (by decide) ?_
    exact he_ri hQ hx hb hr hlk hP hD hS dL_best_16 (Nat.le_of_ble_eq_true rfl) (Nat.le_of_ble_eq_true rfl) ([(x0, .inr (9, fx_q_5)), (m0, .inr (10, fm_q_5)), (aL g o0 1 fo)] ++ (Rc_q_5 ++ Rm_q_5)) rfl ⟨fo, ⟨_, _, _, _, rfl, hc, hm⟩, hcd.symm, trivial⟩
set_option maxHeartbeats 8000000 in
set_option maxRecDepth 100000 in
theorem w_offer (l : Launch) (hlt : l.stackTraces = false) (g : he_G) (x0 m0 o0 : Nat) (Sx Sm : AbS) (t : Int32) (fo : Nat → Int64) (W : va_W) (x_ : Int32) (y_ : Int32) (hI : IL g x0 m0 o0 Sx Sm t fo W) : he_I l yL_offer wsL_offer 8 182 1 6 g [.ref x0, .int x_, .int y_, .ref o0] W (fun (r : Int32) (W2 : va_W) => ∃ fo2 : Nat → Int64, IL g x0 m0 o0 (sp_offer Sx x_ y_).2.2 Sm t fo2 W2 ∧ r = (sp_offer Sx x_ y_).1 ∧ True) (fun W2 => W2) := by
  obtain ⟨fx, fm, Rc, Rm, rfl, hc, hm⟩ := hI
  refine he_beginH (l := l) (g := g) (y := yL_offer) (wl := wsL_offer) (fr := 8) (lo := 182) (mc := 1) (ms := 6) (av := [.ref x0, .int x_, .int y_, .ref o0]) (ws := [(x0, .inr (9, fx)), (m0, .inr (10, fm)), (aL g o0 1 fo)] ++ (Rc ++ Rm)) (cc := cL_offer) (maxL := 5) (ret := (some .int)) (hh := [(0, 10, 13, 13)]) (fun A => va_Qi (fun (r : Int32) (W2 : va_W) => ∃ fo2 : Nat → Int64, IL g x0 m0 o0 (sp_offer Sx x_ y_).2.2 Sm t fo2 W2 ∧ r = (sp_offer Sx x_ y_).1 ∧ True) (fun u t => he_post g A ((fun (W2 : va_W) => W2) u) t) A) (by decide) rfl (Nat.le_of_ble_eq_true rfl) ?_
  intro p e s m args below meth c A ls H locs Q hQ htab hB
  obtain ⟨hx, hb, hr, hml, hown, hts, hlk, hin, hP, hK, hD, hS, hA, hE, hl⟩ := hB
  have hl : lv_has ls 5 [(0, .ref x0), (1, .int x_), (2, .int y_), (3, .ref o0)] := hl
  have cl13 := hts (.classLink RL 13 "java/lang/IllegalArgumentException") (by decide +kernel)
  refine lv_aload_n hx hb dL_offer_0 rfl (lv_at hl 3 rfl) ?_
  refine lv_iconst (v := 0) hx hb dL_offer_1 (by decide) ?_
  refine lv_aload_n hx hb dL_offer_2 rfl (lv_at hl 0 rfl) ?_
  refine lv_iload_n hx hb dL_offer_3 rfl (lv_at hl 1 rfl) ?_
  refine lv_iload_n hx hb dL_offer_4 rfl (lv_at hl 2 rfl) ?_
  rcases k_offer l hlt g x0 Sx _ x_ y_ hc with ⟨hcd, h9⟩ | ⟨hcd, W9, hI9, h9⟩
  · refine he_ci (wc := ([(x0, .inr (9, fx)), (m0, .inr (10, fm)), (aL g o0 1 fo)] ++ (Rc ++ Rm))) (wr := []) (va_runV (As := [.int x_, .int y_]) (rest := [.int 0, .ref o0]) ⟨hx, hb, hml, hown, hts⟩ (il_cI h9 hm H.size) (cwV 2 hts gL_offer_X10_offer rfl rfl rfl (by decide +kernel) ⟨Nat.le_of_ble_eq_true rfl, Nat.le_of_ble_eq_true rfl⟩) (he_preV (wc := ([(x0, .inr (9, fx)), (m0, .inr (10, fm)), (aL g o0 1 fo)] ++ (Rc ++ Rm))) hK hP hD hS hA hE (List.range (([(x0, .inr (9, fx)), (m0, .inr (10, fm)), (aL g o0 1 fo)] ++ (Rc ++ Rm)) : va_W).length) (he_all _) (he_allnd _) 0 rfl rfl) rfl rfl hl.1 rfl (lv_room (Nat.le_of_ble_eq_true rfl)) dL_offer_5 ⟨(Nat.le_of_ble_eq_true rfl), (Nat.le_of_ble_eq_true rfl)⟩) hP hD hS hA (List.range (([(x0, .inr (9, fx)), (m0, .inr (10, fm)), (aL g o0 1 fo)] ++ (Rc ++ Rm)) : va_W).length) [] (he_all _) rfl rfl (fun _ h9 => absurd h9 List.not_mem_nil) (fun r_1 u_2 H locs hu_3 hP hD hS => ?_)
    obtain ⟨hI9, hp5⟩ := hu_3
    obtain ⟨fx_q_4, fm_q_4, Rc_q_4, Rm_q_4, rfl, hc, hm⟩ := hI9
    have hP : va_P g.1 vwCl ([(x0, .inr (9, fx_q_4)), (m0, .inr (10, fm_q_4)), (aL g o0 1 fo)] ++ (Rc_q_4 ++ Rm_q_4)) H := hP
    have hD : va_D A ([(x0, .inr (9, fx_q_4)), (m0, .inr (10, fm_q_4)), (aL g o0 1 fo)] ++ (Rc_q_4 ++ Rm_q_4)) := hD
    refine lv_i2l (v := Int32.toInt64 r_1) hx hb dL_offer_8 rfl ?_
    refine he_last hx hb hK hP hD hS 2 rfl 0 (by decide) (by decide) (by decide) dL_offer_9 (fun H locs hP hD hS => ?_)
    have hP : va_P g.1 vwCl ([(x0, .inr (9, fx_q_4)), (m0, .inr (10, fm_q_4)), (aL g o0 1 (vp_updL fo 0 (Int32.toInt64 r_1)))] ++ (Rc_q_4 ++ Rm_q_4)) H := hP
    have hD : va_D A ([(x0, .inr (9, fx_q_4)), (m0, .inr (10, fm_q_4)), (aL g o0 1 (vp_updL fo 0 (Int32.toInt64 r_1)))] ++ (Rc_q_4 ++ Rm_q_4)) := hD
    refine lv_goto (tgt := 17) hx hb dL_offer_10 (by decide) ?_
    refine lv_iconst (v := 0) hx hb dL_offer_17 (by decide) ?_
    exact he_ri hQ hx hb hr hlk hP hD hS dL_offer_18 (Nat.le_of_ble_eq_true rfl) (Nat.le_of_ble_eq_true rfl) ([(x0, .inr (9, fx_q_4)), (m0, .inr (10, fm_q_4)), (aL g o0 1 (vp_updL fo 0 (Int32.toInt64 r_1)))] ++ (Rc_q_4 ++ Rm_q_4)) rfl ⟨(vp_updL fo 0 (Int32.toInt64 r_1)), ⟨_, _, _, _, rfl, hc, hm⟩, hcd.symm, trivial⟩
  · obtain ⟨W8, hI8, h8⟩ := il_Ti (o0 := o0) (fo := fo) h9 hI9 hm
    refine he_xi (En := "java/lang/IllegalArgumentException") (wx := W8) (wc := ([(x0, .inr (9, fx)), (m0, .inr (10, fm)), (aL g o0 1 fo)] ++ (Rc ++ Rm))) (wr := []) (vx_runV (As := [.int x_, .int y_]) (rest := [.int 0, .ref o0]) ⟨hx, hb, hml, hown, hts⟩ (h8 H.size) (cwV 2 hts gL_offer_X10_offer rfl rfl rfl (by decide +kernel) ⟨Nat.le_of_ble_eq_true rfl, Nat.le_of_ble_eq_true rfl⟩) (he_preV (wc := ([(x0, .inr (9, fx)), (m0, .inr (10, fm)), (aL g o0 1 fo)] ++ (Rc ++ Rm))) hK hP hD hS hA hE (List.range (([(x0, .inr (9, fx)), (m0, .inr (10, fm)), (aL g o0 1 fo)] ++ (Rc ++ Rm)) : va_W).length) (he_all _) (he_allnd _) 0 rfl rfl) rfl rfl hl.1 rfl (lv_room (Nat.le_of_ble_eq_true rfl)) dL_offer_5 ⟨(Nat.le_of_ble_eq_true rfl), (Nat.le_of_ble_eq_true rfl)⟩) hP hD hS hA (List.range (([(x0, .inr (9, fx)), (m0, .inr (10, fm)), (aL g o0 1 fo)] ++ (Rc ++ Rm)) : va_W).length) [] (he_all _) rfl rfl (fun _ h9 => absurd h9 List.not_mem_nil) (fun ce q9 H locs hP hD hS hce hcv hcl => ?_)
    obtain ⟨fx_q_5, fm_q_5, Rc_q_5, Rm_q_5, rfl, hc, hm⟩ := hI8
    have hP : va_P g.1 vwCl ([(x0, .inr (9, fx_q_5)), (m0, .inr (10, fm_q_5)), (aL g o0 1 fo)] ++ (Rc_q_5 ++ Rm_q_5)) H := hP
    have hD : va_D A ([(x0, .inr (9, fx_q_5)), (m0, .inr (10, fm_q_5)), (aL g o0 1 fo)] ++ (Rc_q_5 ++ Rm_q_5)) := hD
    refine vx_catch (name := "java/lang/IllegalArgumentException") (E := "java/lang/IllegalArgumentException") hown [] ⟨0, 10, 13, 13⟩ [] htab (fun z h9 => nomatch h9) (by decide) (by decide) cl13 (va_Nw.use rfl (hE.cast ("java/lang/IllegalArgumentException", "java/lang/IllegalArgumentException") (by decide))) hce hcv hcl ?_
    refine W.widen (k := 1) (n := 6) (Nat.le_of_ble_eq_true rfl) (Nat.le_of_ble_eq_true rfl) ?_
    refine lv_astore (lv' := [(4, .ref q9), (0, .ref x0), (1, .int x_), (2, .int y_), (3, .ref o0)]) hx hb dL_offer_13 hl (by decide) rfl (fun ls hl => ?_)
    refine lv_iconst (v := 1) hx hb dL_offer_15 (by decide) ?_
    exact he_ri hQ hx hb hr hlk hP hD hS dL_offer_16 (Nat.le_of_ble_eq_true rfl) (Nat.le_of_ble_eq_true rfl) ([(x0, .inr (9, fx_q_5)), (m0, .inr (10, fm_q_5)), (aL g o0 1 fo)] ++ (Rc_q_5 ++ Rm_q_5)) rfl ⟨fo, ⟨_, _, _, _, rfl, hc, hm⟩, hcd.symm, trivial⟩
set_option maxHeartbeats 8000000 in
set_option maxRecDepth 100000 in
theorem w_nearest (l : Launch) (hlt : l.stackTraces = false) (g : he_G) (x0 m0 o0 : Nat) (Sx Sm : AbS) (t : Int32) (fo : Nat → Int64) (W : va_W) (x_ : Int32) (y_ : Int32) (hI : IL g x0 m0 o0 Sx Sm t fo W) : he_I l yL_nearest wsL_nearest 8 126 1 6 g [.ref x0, .int x_, .int y_, .ref o0] W (fun (r : Int32) (W2 : va_W) => ∃ fo2 : Nat → Int64, IL g x0 m0 o0 (sp_nearest Sx x_ y_).2.2 Sm t fo2 W2 ∧ r = (sp_nearest Sx x_ y_).1 ∧ ((sp_nearest Sx x_ y_).1 = 0 → fo2 0 = Int32.toInt64 (sp_nearest Sx x_ y_).2.1)) (fun W2 => W2) := by
  obtain ⟨fx, fm, Rc, Rm, rfl, hc, hm⟩ := hI
  refine he_beginH (l := l) (g := g) (y := yL_nearest) (wl := wsL_nearest) (fr := 8) (lo := 126) (mc := 1) (ms := 6) (av := [.ref x0, .int x_, .int y_, .ref o0]) (ws := [(x0, .inr (9, fx)), (m0, .inr (10, fm)), (aL g o0 1 fo)] ++ (Rc ++ Rm)) (cc := cL_nearest) (maxL := 5) (ret := (some .int)) (hh := [(0, 10, 13, 13)]) (fun A => va_Qi (fun (r : Int32) (W2 : va_W) => ∃ fo2 : Nat → Int64, IL g x0 m0 o0 (sp_nearest Sx x_ y_).2.2 Sm t fo2 W2 ∧ r = (sp_nearest Sx x_ y_).1 ∧ ((sp_nearest Sx x_ y_).1 = 0 → fo2 0 = Int32.toInt64 (sp_nearest Sx x_ y_).2.1)) (fun u t => he_post g A ((fun (W2 : va_W) => W2) u) t) A) (by decide) rfl (Nat.le_of_ble_eq_true rfl) ?_
  intro p e s m args below meth c A ls H locs Q hQ htab hB
  obtain ⟨hx, hb, hr, hml, hown, hts, hlk, hin, hP, hK, hD, hS, hA, hE, hl⟩ := hB
  have hl : lv_has ls 5 [(0, .ref x0), (1, .int x_), (2, .int y_), (3, .ref o0)] := hl
  have cl13 := hts (.classLink RL 13 "java/lang/IllegalArgumentException") (by decide +kernel)
  refine lv_aload_n hx hb dL_nearest_0 rfl (lv_at hl 3 rfl) ?_
  refine lv_iconst (v := 0) hx hb dL_nearest_1 (by decide) ?_
  refine lv_aload_n hx hb dL_nearest_2 rfl (lv_at hl 0 rfl) ?_
  refine lv_iload_n hx hb dL_nearest_3 rfl (lv_at hl 1 rfl) ?_
  refine lv_iload_n hx hb dL_nearest_4 rfl (lv_at hl 2 rfl) ?_
  rcases k_nearest l hlt g x0 Sx _ x_ y_ hc with ⟨hcd, h9⟩ | ⟨hcd, W9, hI9, h9⟩
  · refine he_ci (wc := ([(x0, .inr (9, fx)), (m0, .inr (10, fm)), (aL g o0 1 fo)] ++ (Rc ++ Rm))) (wr := []) (va_runV (As := [.int x_, .int y_]) (rest := [.int 0, .ref o0]) ⟨hx, hb, hml, hown, hts⟩ (il_cI h9 hm H.size) (cwV 2 hts gL_nearest_X10_nearest rfl rfl rfl (by decide +kernel) ⟨Nat.le_of_ble_eq_true rfl, Nat.le_of_ble_eq_true rfl⟩) (he_preV (wc := ([(x0, .inr (9, fx)), (m0, .inr (10, fm)), (aL g o0 1 fo)] ++ (Rc ++ Rm))) hK hP hD hS hA hE (List.range (([(x0, .inr (9, fx)), (m0, .inr (10, fm)), (aL g o0 1 fo)] ++ (Rc ++ Rm)) : va_W).length) (he_all _) (he_allnd _) 0 rfl rfl) rfl rfl hl.1 rfl (lv_room (Nat.le_of_ble_eq_true rfl)) dL_nearest_5 ⟨(Nat.le_of_ble_eq_true rfl), (Nat.le_of_ble_eq_true rfl)⟩) hP hD hS hA (List.range (([(x0, .inr (9, fx)), (m0, .inr (10, fm)), (aL g o0 1 fo)] ++ (Rc ++ Rm)) : va_W).length) [] (he_all _) rfl rfl (fun _ h9 => absurd h9 List.not_mem_nil) (fun r_1 u_2 H locs hu_3 hP hD hS => ?_)
    obtain ⟨hI9, hp5⟩ := hu_3
    obtain ⟨fx_q_4, fm_q_4, Rc_q_4, Rm_q_4, rfl, hc, hm⟩ := hI9
    have hP : va_P g.1 vwCl ([(x0, .inr (9, fx_q_4)), (m0, .inr (10, fm_q_4)), (aL g o0 1 fo)] ++ (Rc_q_4 ++ Rm_q_4)) H := hP
    have hD : va_D A ([(x0, .inr (9, fx_q_4)), (m0, .inr (10, fm_q_4)), (aL g o0 1 fo)] ++ (Rc_q_4 ++ Rm_q_4)) := hD
    refine lv_i2l (v := Int32.toInt64 r_1) hx hb dL_nearest_8 rfl ?_
    refine he_last hx hb hK hP hD hS 2 rfl 0 (by decide) (by decide) (by decide) dL_nearest_9 (fun H locs hP hD hS => ?_)
    have hP : va_P g.1 vwCl ([(x0, .inr (9, fx_q_4)), (m0, .inr (10, fm_q_4)), (aL g o0 1 (vp_updL fo 0 (Int32.toInt64 r_1)))] ++ (Rc_q_4 ++ Rm_q_4)) H := hP
    have hD : va_D A ([(x0, .inr (9, fx_q_4)), (m0, .inr (10, fm_q_4)), (aL g o0 1 (vp_updL fo 0 (Int32.toInt64 r_1)))] ++ (Rc_q_4 ++ Rm_q_4)) := hD
    refine lv_goto (tgt := 17) hx hb dL_nearest_10 (by decide) ?_
    refine lv_iconst (v := 0) hx hb dL_nearest_17 (by decide) ?_
    exact he_ri hQ hx hb hr hlk hP hD hS dL_nearest_18 (Nat.le_of_ble_eq_true rfl) (Nat.le_of_ble_eq_true rfl) ([(x0, .inr (9, fx_q_4)), (m0, .inr (10, fm_q_4)), (aL g o0 1 (vp_updL fo 0 (Int32.toInt64 r_1)))] ++ (Rc_q_4 ++ Rm_q_4)) rfl ⟨(vp_updL fo 0 (Int32.toInt64 r_1)), ⟨_, _, _, _, rfl, hc, hm⟩, hcd.symm, fun _ => (by rw [show (vp_updL fo 0 (Int32.toInt64 r_1)) 0 = _ from vp_updL_s _ _ _]; exact (congrArg Int32.toInt64 hp5))⟩
  · obtain ⟨W8, hI8, h8⟩ := il_Ti (o0 := o0) (fo := fo) h9 hI9 hm
    refine he_xi (En := "java/lang/IllegalArgumentException") (wx := W8) (wc := ([(x0, .inr (9, fx)), (m0, .inr (10, fm)), (aL g o0 1 fo)] ++ (Rc ++ Rm))) (wr := []) (vx_runV (As := [.int x_, .int y_]) (rest := [.int 0, .ref o0]) ⟨hx, hb, hml, hown, hts⟩ (h8 H.size) (cwV 2 hts gL_nearest_X10_nearest rfl rfl rfl (by decide +kernel) ⟨Nat.le_of_ble_eq_true rfl, Nat.le_of_ble_eq_true rfl⟩) (he_preV (wc := ([(x0, .inr (9, fx)), (m0, .inr (10, fm)), (aL g o0 1 fo)] ++ (Rc ++ Rm))) hK hP hD hS hA hE (List.range (([(x0, .inr (9, fx)), (m0, .inr (10, fm)), (aL g o0 1 fo)] ++ (Rc ++ Rm)) : va_W).length) (he_all _) (he_allnd _) 0 rfl rfl) rfl rfl hl.1 rfl (lv_room (Nat.le_of_ble_eq_true rfl)) dL_nearest_5 ⟨(Nat.le_of_ble_eq_true rfl), (Nat.le_of_ble_eq_true rfl)⟩) hP hD hS hA (List.range (([(x0, .inr (9, fx)), (m0, .inr (10, fm)), (aL g o0 1 fo)] ++ (Rc ++ Rm)) : va_W).length) [] (he_all _) rfl rfl (fun _ h9 => absurd h9 List.not_mem_nil) (fun ce q9 H locs hP hD hS hce hcv hcl => ?_)
    obtain ⟨fx_q_5, fm_q_5, Rc_q_5, Rm_q_5, rfl, hc, hm⟩ := hI8
    have hP : va_P g.1 vwCl ([(x0, .inr (9, fx_q_5)), (m0, .inr (10, fm_q_5)), (aL g o0 1 fo)] ++ (Rc_q_5 ++ Rm_q_5)) H := hP
    have hD : va_D A ([(x0, .inr (9, fx_q_5)), (m0, .inr (10, fm_q_5)), (aL g o0 1 fo)] ++ (Rc_q_5 ++ Rm_q_5)) := hD
    refine vx_catch (name := "java/lang/IllegalArgumentException") (E := "java/lang/IllegalArgumentException") hown [] ⟨0, 10, 13, 13⟩ [] htab (fun z h9 => nomatch h9) (by decide) (by decide) cl13 (va_Nw.use rfl (hE.cast ("java/lang/IllegalArgumentException", "java/lang/IllegalArgumentException") (by decide))) hce hcv hcl ?_
    refine W.widen (k := 1) (n := 6) (Nat.le_of_ble_eq_true rfl) (Nat.le_of_ble_eq_true rfl) ?_
    refine lv_astore (lv' := [(4, .ref q9), (0, .ref x0), (1, .int x_), (2, .int y_), (3, .ref o0)]) hx hb dL_nearest_13 hl (by decide) rfl (fun ls hl => ?_)
    refine lv_iconst (v := 1) hx hb dL_nearest_15 (by decide) ?_
    exact he_ri hQ hx hb hr hlk hP hD hS dL_nearest_16 (Nat.le_of_ble_eq_true rfl) (Nat.le_of_ble_eq_true rfl) ([(x0, .inr (9, fx_q_5)), (m0, .inr (10, fm_q_5)), (aL g o0 1 fo)] ++ (Rc_q_5 ++ Rm_q_5)) rfl ⟨fo, ⟨_, _, _, _, rfl, hc, hm⟩, hcd.symm, fun h9 => absurd (hcd.symm.trans h9) (by decide)⟩
set_option maxHeartbeats 8000000 in
set_option maxRecDepth 100000 in
theorem w_stop (l : Launch) (hlt : l.stackTraces = false) (g : he_G) (x0 m0 o0 : Nat) (Sx Sm : AbS) (t : Int32) (fo : Nat → Int64) (W : va_W) (x_ : Int32) (y_ : Int32) (hI : IL g x0 m0 o0 Sx Sm t fo W) : he_I l yL_stop wsL_stop 8 157 1 6 g [.ref x0, .int x_, .int y_, .ref o0] W (fun (r : Int32) (W2 : va_W) => ∃ fo2 : Nat → Int64, IL g x0 m0 o0 (sp_stop Sx x_ y_).2.2 Sm t fo2 W2 ∧ r = (sp_stop Sx x_ y_).1 ∧ True) (fun W2 => W2) := by
  obtain ⟨fx, fm, Rc, Rm, rfl, hc, hm⟩ := hI
  refine he_beginH (l := l) (g := g) (y := yL_stop) (wl := wsL_stop) (fr := 8) (lo := 157) (mc := 1) (ms := 6) (av := [.ref x0, .int x_, .int y_, .ref o0]) (ws := [(x0, .inr (9, fx)), (m0, .inr (10, fm)), (aL g o0 1 fo)] ++ (Rc ++ Rm)) (cc := cL_stop) (maxL := 5) (ret := (some .int)) (hh := [(0, 10, 13, 13)]) (fun A => va_Qi (fun (r : Int32) (W2 : va_W) => ∃ fo2 : Nat → Int64, IL g x0 m0 o0 (sp_stop Sx x_ y_).2.2 Sm t fo2 W2 ∧ r = (sp_stop Sx x_ y_).1 ∧ True) (fun u t => he_post g A ((fun (W2 : va_W) => W2) u) t) A) (by decide) rfl (Nat.le_of_ble_eq_true rfl) ?_
  intro p e s m args below meth c A ls H locs Q hQ htab hB
  obtain ⟨hx, hb, hr, hml, hown, hts, hlk, hin, hP, hK, hD, hS, hA, hE, hl⟩ := hB
  have hl : lv_has ls 5 [(0, .ref x0), (1, .int x_), (2, .int y_), (3, .ref o0)] := hl
  have cl13 := hts (.classLink RL 13 "java/lang/IllegalArgumentException") (by decide +kernel)
  refine lv_aload_n hx hb dL_stop_0 rfl (lv_at hl 3 rfl) ?_
  refine lv_iconst (v := 0) hx hb dL_stop_1 (by decide) ?_
  refine lv_aload_n hx hb dL_stop_2 rfl (lv_at hl 0 rfl) ?_
  refine lv_iload_n hx hb dL_stop_3 rfl (lv_at hl 1 rfl) ?_
  refine lv_iload_n hx hb dL_stop_4 rfl (lv_at hl 2 rfl) ?_
  rcases k_stop l hlt g x0 Sx _ x_ y_ hc with ⟨hcd, h9⟩ | ⟨hcd, W9, hI9, h9⟩
  · refine he_ci (wc := ([(x0, .inr (9, fx)), (m0, .inr (10, fm)), (aL g o0 1 fo)] ++ (Rc ++ Rm))) (wr := []) (va_runV (As := [.int x_, .int y_]) (rest := [.int 0, .ref o0]) ⟨hx, hb, hml, hown, hts⟩ (il_cI h9 hm H.size) (cwV 2 hts gL_stop_X10_stop rfl rfl rfl (by decide +kernel) ⟨Nat.le_of_ble_eq_true rfl, Nat.le_of_ble_eq_true rfl⟩) (he_preV (wc := ([(x0, .inr (9, fx)), (m0, .inr (10, fm)), (aL g o0 1 fo)] ++ (Rc ++ Rm))) hK hP hD hS hA hE (List.range (([(x0, .inr (9, fx)), (m0, .inr (10, fm)), (aL g o0 1 fo)] ++ (Rc ++ Rm)) : va_W).length) (he_all _) (he_allnd _) 0 rfl rfl) rfl rfl hl.1 rfl (lv_room (Nat.le_of_ble_eq_true rfl)) dL_stop_5 ⟨(Nat.le_of_ble_eq_true rfl), (Nat.le_of_ble_eq_true rfl)⟩) hP hD hS hA (List.range (([(x0, .inr (9, fx)), (m0, .inr (10, fm)), (aL g o0 1 fo)] ++ (Rc ++ Rm)) : va_W).length) [] (he_all _) rfl rfl (fun _ h9 => absurd h9 List.not_mem_nil) (fun r_1 u_2 H locs hu_3 hP hD hS => ?_)
    obtain ⟨hI9, hp5⟩ := hu_3
    obtain ⟨fx_q_4, fm_q_4, Rc_q_4, Rm_q_4, rfl, hc, hm⟩ := hI9
    have hP : va_P g.1 vwCl ([(x0, .inr (9, fx_q_4)), (m0, .inr (10, fm_q_4)), (aL g o0 1 fo)] ++ (Rc_q_4 ++ Rm_q_4)) H := hP
    have hD : va_D A ([(x0, .inr (9, fx_q_4)), (m0, .inr (10, fm_q_4)), (aL g o0 1 fo)] ++ (Rc_q_4 ++ Rm_q_4)) := hD
    refine lv_i2l (v := Int32.toInt64 r_1) hx hb dL_stop_8 rfl ?_
    refine he_last hx hb hK hP hD hS 2 rfl 0 (by decide) (by decide) (by decide) dL_stop_9 (fun H locs hP hD hS => ?_)
    have hP : va_P g.1 vwCl ([(x0, .inr (9, fx_q_4)), (m0, .inr (10, fm_q_4)), (aL g o0 1 (vp_updL fo 0 (Int32.toInt64 r_1)))] ++ (Rc_q_4 ++ Rm_q_4)) H := hP
    have hD : va_D A ([(x0, .inr (9, fx_q_4)), (m0, .inr (10, fm_q_4)), (aL g o0 1 (vp_updL fo 0 (Int32.toInt64 r_1)))] ++ (Rc_q_4 ++ Rm_q_4)) := hD
    refine lv_goto (tgt := 17) hx hb dL_stop_10 (by decide) ?_
    refine lv_iconst (v := 0) hx hb dL_stop_17 (by decide) ?_
    exact he_ri hQ hx hb hr hlk hP hD hS dL_stop_18 (Nat.le_of_ble_eq_true rfl) (Nat.le_of_ble_eq_true rfl) ([(x0, .inr (9, fx_q_4)), (m0, .inr (10, fm_q_4)), (aL g o0 1 (vp_updL fo 0 (Int32.toInt64 r_1)))] ++ (Rc_q_4 ++ Rm_q_4)) rfl ⟨(vp_updL fo 0 (Int32.toInt64 r_1)), ⟨_, _, _, _, rfl, hc, hm⟩, hcd.symm, trivial⟩
  · obtain ⟨W8, hI8, h8⟩ := il_Ti (o0 := o0) (fo := fo) h9 hI9 hm
    refine he_xi (En := "java/lang/IllegalArgumentException") (wx := W8) (wc := ([(x0, .inr (9, fx)), (m0, .inr (10, fm)), (aL g o0 1 fo)] ++ (Rc ++ Rm))) (wr := []) (vx_runV (As := [.int x_, .int y_]) (rest := [.int 0, .ref o0]) ⟨hx, hb, hml, hown, hts⟩ (h8 H.size) (cwV 2 hts gL_stop_X10_stop rfl rfl rfl (by decide +kernel) ⟨Nat.le_of_ble_eq_true rfl, Nat.le_of_ble_eq_true rfl⟩) (he_preV (wc := ([(x0, .inr (9, fx)), (m0, .inr (10, fm)), (aL g o0 1 fo)] ++ (Rc ++ Rm))) hK hP hD hS hA hE (List.range (([(x0, .inr (9, fx)), (m0, .inr (10, fm)), (aL g o0 1 fo)] ++ (Rc ++ Rm)) : va_W).length) (he_all _) (he_allnd _) 0 rfl rfl) rfl rfl hl.1 rfl (lv_room (Nat.le_of_ble_eq_true rfl)) dL_stop_5 ⟨(Nat.le_of_ble_eq_true rfl), (Nat.le_of_ble_eq_true rfl)⟩) hP hD hS hA (List.range (([(x0, .inr (9, fx)), (m0, .inr (10, fm)), (aL g o0 1 fo)] ++ (Rc ++ Rm)) : va_W).length) [] (he_all _) rfl rfl (fun _ h9 => absurd h9 List.not_mem_nil) (fun ce q9 H locs hP hD hS hce hcv hcl => ?_)
    obtain ⟨fx_q_5, fm_q_5, Rc_q_5, Rm_q_5, rfl, hc, hm⟩ := hI8
    have hP : va_P g.1 vwCl ([(x0, .inr (9, fx_q_5)), (m0, .inr (10, fm_q_5)), (aL g o0 1 fo)] ++ (Rc_q_5 ++ Rm_q_5)) H := hP
    have hD : va_D A ([(x0, .inr (9, fx_q_5)), (m0, .inr (10, fm_q_5)), (aL g o0 1 fo)] ++ (Rc_q_5 ++ Rm_q_5)) := hD
    refine vx_catch (name := "java/lang/IllegalArgumentException") (E := "java/lang/IllegalArgumentException") hown [] ⟨0, 10, 13, 13⟩ [] htab (fun z h9 => nomatch h9) (by decide) (by decide) cl13 (va_Nw.use rfl (hE.cast ("java/lang/IllegalArgumentException", "java/lang/IllegalArgumentException") (by decide))) hce hcv hcl ?_
    refine W.widen (k := 1) (n := 6) (Nat.le_of_ble_eq_true rfl) (Nat.le_of_ble_eq_true rfl) ?_
    refine lv_astore (lv' := [(4, .ref q9), (0, .ref x0), (1, .int x_), (2, .int y_), (3, .ref o0)]) hx hb dL_stop_13 hl (by decide) rfl (fun ls hl => ?_)
    refine lv_iconst (v := 1) hx hb dL_stop_15 (by decide) ?_
    exact he_ri hQ hx hb hr hlk hP hD hS dL_stop_16 (Nat.le_of_ble_eq_true rfl) (Nat.le_of_ble_eq_true rfl) ([(x0, .inr (9, fx_q_5)), (m0, .inr (10, fm_q_5)), (aL g o0 1 fo)] ++ (Rc_q_5 ++ Rm_q_5)) rfl ⟨fo, ⟨_, _, _, _, rfl, hc, hm⟩, hcd.symm, trivial⟩
set_option maxHeartbeats 8000000 in
set_option maxRecDepth 100000 in
theorem w_odds (l : Launch) (hlt : l.stackTraces = false) (g : he_G) (x0 m0 o0 : Nat) (Sx Sm : AbS) (t : Int32) (fo : Nat → Int64) (W : va_W) (x_ : Int32) (y_ : Int32) (hI : IL g x0 m0 o0 Sx Sm t fo W) : he_I l yL_odds wsL_odds 8 125 1 6 g [.ref x0, .int x_, .int y_] W (fun (r : Int32) (W2 : va_W) => ∃ fo2 : Nat → Int64, IL g x0 m0 o0 (sp_odds Sx x_ y_).2.2 Sm t fo2 W2 ∧ r = (sp_odds Sx x_ y_).1 ∧ True) (fun W2 => W2) := by
  obtain ⟨fx, fm, Rc, Rm, rfl, hc, hm⟩ := hI
  refine he_beginH (l := l) (g := g) (y := yL_odds) (wl := wsL_odds) (fr := 8) (lo := 125) (mc := 1) (ms := 6) (av := [.ref x0, .int x_, .int y_]) (ws := [(x0, .inr (9, fx)), (m0, .inr (10, fm)), (aL g o0 1 fo)] ++ (Rc ++ Rm)) (cc := cL_odds) (maxL := 4) (ret := (some .int)) (hh := [(0, 6, 9, 13)]) (fun A => va_Qi (fun (r : Int32) (W2 : va_W) => ∃ fo2 : Nat → Int64, IL g x0 m0 o0 (sp_odds Sx x_ y_).2.2 Sm t fo2 W2 ∧ r = (sp_odds Sx x_ y_).1 ∧ True) (fun u t => he_post g A ((fun (W2 : va_W) => W2) u) t) A) (by decide) rfl (Nat.le_of_ble_eq_true rfl) ?_
  intro p e s m args below meth c A ls H locs Q hQ htab hB
  obtain ⟨hx, hb, hr, hml, hown, hts, hlk, hin, hP, hK, hD, hS, hA, hE, hl⟩ := hB
  have hl : lv_has ls 4 [(0, .ref x0), (1, .int x_), (2, .int y_)] := hl
  have cl13 := hts (.classLink RL 13 "java/lang/IllegalArgumentException") (by decide +kernel)
  refine lv_aload_n hx hb dL_odds_0 rfl (lv_at hl 0 rfl) ?_
  refine lv_iload_n hx hb dL_odds_1 rfl (lv_at hl 1 rfl) ?_
  refine lv_iload_n hx hb dL_odds_2 rfl (lv_at hl 2 rfl) ?_
  rcases k_odds l hlt g x0 Sx _ x_ y_ hc with ⟨hcd, h9⟩ | ⟨hcd, W9, hI9, h9⟩
  · refine he_cv (wc := ([(x0, .inr (9, fx)), (m0, .inr (10, fm)), (aL g o0 1 fo)] ++ (Rc ++ Rm))) (wr := []) (va_runV (As := [.int x_, .int y_]) (rest := []) ⟨hx, hb, hml, hown, hts⟩ (il_cV h9 hm H.size) (cwV 2 hts gL_odds_X10_odds rfl rfl rfl (by decide +kernel) ⟨Nat.le_of_ble_eq_true rfl, Nat.le_of_ble_eq_true rfl⟩) (he_preV (wc := ([(x0, .inr (9, fx)), (m0, .inr (10, fm)), (aL g o0 1 fo)] ++ (Rc ++ Rm))) hK hP hD hS hA hE (List.range (([(x0, .inr (9, fx)), (m0, .inr (10, fm)), (aL g o0 1 fo)] ++ (Rc ++ Rm)) : va_W).length) (he_all _) (he_allnd _) 0 rfl rfl) rfl rfl hl.1 rfl (lv_room (Nat.le_of_ble_eq_true rfl)) dL_odds_3 ⟨(Nat.le_of_ble_eq_true rfl), (Nat.le_of_ble_eq_true rfl)⟩) hP hD hS hA (List.range (([(x0, .inr (9, fx)), (m0, .inr (10, fm)), (aL g o0 1 fo)] ++ (Rc ++ Rm)) : va_W).length) [] (he_all _) rfl rfl (fun _ h9 => absurd h9 List.not_mem_nil) (fun u_2 H locs hu_3 hP hD hS => ?_)
    obtain ⟨hI9, hp3⟩ := hu_3
    obtain ⟨fx_q_4, fm_q_4, Rc_q_4, Rm_q_4, rfl, hc, hm⟩ := hI9
    have hP : va_P g.1 vwCl ([(x0, .inr (9, fx_q_4)), (m0, .inr (10, fm_q_4)), (aL g o0 1 fo)] ++ (Rc_q_4 ++ Rm_q_4)) H := hP
    have hD : va_D A ([(x0, .inr (9, fx_q_4)), (m0, .inr (10, fm_q_4)), (aL g o0 1 fo)] ++ (Rc_q_4 ++ Rm_q_4)) := hD
    refine lv_goto (tgt := 12) hx hb dL_odds_6 (by decide) ?_
    refine lv_iconst (v := 0) hx hb dL_odds_12 (by decide) ?_
    exact he_ri hQ hx hb hr hlk hP hD hS dL_odds_13 (Nat.le_of_ble_eq_true rfl) (Nat.le_of_ble_eq_true rfl) ([(x0, .inr (9, fx_q_4)), (m0, .inr (10, fm_q_4)), (aL g o0 1 fo)] ++ (Rc_q_4 ++ Rm_q_4)) rfl ⟨fo, ⟨_, _, _, _, rfl, hc, hm⟩, hcd.symm, trivial⟩
  · obtain ⟨W8, hI8, h8⟩ := il_Tv (o0 := o0) (fo := fo) h9 hI9 hm
    refine he_xv (En := "java/lang/IllegalArgumentException") (wx := W8) (wc := ([(x0, .inr (9, fx)), (m0, .inr (10, fm)), (aL g o0 1 fo)] ++ (Rc ++ Rm))) (wr := []) (vx_runV (As := [.int x_, .int y_]) (rest := []) ⟨hx, hb, hml, hown, hts⟩ (h8 H.size) (cwV 2 hts gL_odds_X10_odds rfl rfl rfl (by decide +kernel) ⟨Nat.le_of_ble_eq_true rfl, Nat.le_of_ble_eq_true rfl⟩) (he_preV (wc := ([(x0, .inr (9, fx)), (m0, .inr (10, fm)), (aL g o0 1 fo)] ++ (Rc ++ Rm))) hK hP hD hS hA hE (List.range (([(x0, .inr (9, fx)), (m0, .inr (10, fm)), (aL g o0 1 fo)] ++ (Rc ++ Rm)) : va_W).length) (he_all _) (he_allnd _) 0 rfl rfl) rfl rfl hl.1 rfl (lv_room (Nat.le_of_ble_eq_true rfl)) dL_odds_3 ⟨(Nat.le_of_ble_eq_true rfl), (Nat.le_of_ble_eq_true rfl)⟩) hP hD hS hA (List.range (([(x0, .inr (9, fx)), (m0, .inr (10, fm)), (aL g o0 1 fo)] ++ (Rc ++ Rm)) : va_W).length) [] (he_all _) rfl rfl (fun _ h9 => absurd h9 List.not_mem_nil) (fun ce q9 H locs hP hD hS hce hcv hcl => ?_)
    obtain ⟨fx_q_5, fm_q_5, Rc_q_5, Rm_q_5, rfl, hc, hm⟩ := hI8
    have hP : va_P g.1 vwCl ([(x0, .inr (9, fx_q_5)), (m0, .inr (10, fm_q_5)), (aL g o0 1 fo)] ++ (Rc_q_5 ++ Rm_q_5)) H := hP
    have hD : va_D A ([(x0, .inr (9, fx_q_5)), (m0, .inr (10, fm_q_5)), (aL g o0 1 fo)] ++ (Rc_q_5 ++ Rm_q_5)) := hD
    refine vx_catch (name := "java/lang/IllegalArgumentException") (E := "java/lang/IllegalArgumentException") hown [] ⟨0, 6, 9, 13⟩ [] htab (fun z h9 => nomatch h9) (by decide) (by decide) cl13 (va_Nw.use rfl (hE.cast ("java/lang/IllegalArgumentException", "java/lang/IllegalArgumentException") (by decide))) hce hcv hcl ?_
    refine W.widen (k := 1) (n := 6) (Nat.le_of_ble_eq_true rfl) (Nat.le_of_ble_eq_true rfl) ?_
    refine lv_astore_n (lv' := [(3, .ref q9), (0, .ref x0), (1, .int x_), (2, .int y_)]) hx hb dL_odds_9 rfl hl (by decide) rfl (fun ls hl => ?_)
    refine lv_iconst (v := 1) hx hb dL_odds_10 (by decide) ?_
    exact he_ri hQ hx hb hr hlk hP hD hS dL_odds_11 (Nat.le_of_ble_eq_true rfl) (Nat.le_of_ble_eq_true rfl) ([(x0, .inr (9, fx_q_5)), (m0, .inr (10, fm_q_5)), (aL g o0 1 fo)] ++ (Rc_q_5 ++ Rm_q_5)) rfl ⟨fo, ⟨_, _, _, _, rfl, hc, hm⟩, hcd.symm, trivial⟩
set_option maxHeartbeats 8000000 in
set_option maxRecDepth 100000 in
theorem w_kind (l : Launch) (hlt : l.stackTraces = false) (g : he_G) (x0 m0 o0 : Nat) (Sx Sm : AbS) (t : Int32) (fo : Nat → Int64) (W : va_W) (x_ : Int32) (y_ : Int32) (z_ : Int32) (hI : IL g x0 m0 o0 Sx Sm t fo W) : he_I l yL_kind wsL_kind 8 126 1 6 g [.ref x0, .int x_, .int y_, .int z_] W (fun (r : Int32) (W2 : va_W) => ∃ fo2 : Nat → Int64, IL g x0 m0 o0 (sp_kind Sx x_ y_ z_).2.2 Sm t fo2 W2 ∧ r = (sp_kind Sx x_ y_ z_).1 ∧ True) (fun W2 => W2) := by
  obtain ⟨fx, fm, Rc, Rm, rfl, hc, hm⟩ := hI
  refine he_beginH (l := l) (g := g) (y := yL_kind) (wl := wsL_kind) (fr := 8) (lo := 126) (mc := 1) (ms := 6) (av := [.ref x0, .int x_, .int y_, .int z_]) (ws := [(x0, .inr (9, fx)), (m0, .inr (10, fm)), (aL g o0 1 fo)] ++ (Rc ++ Rm)) (cc := cL_kind) (maxL := 5) (ret := (some .int)) (hh := [(0, 7, 10, 13)]) (fun A => va_Qi (fun (r : Int32) (W2 : va_W) => ∃ fo2 : Nat → Int64, IL g x0 m0 o0 (sp_kind Sx x_ y_ z_).2.2 Sm t fo2 W2 ∧ r = (sp_kind Sx x_ y_ z_).1 ∧ True) (fun u t => he_post g A ((fun (W2 : va_W) => W2) u) t) A) (by decide) rfl (Nat.le_of_ble_eq_true rfl) ?_
  intro p e s m args below meth c A ls H locs Q hQ htab hB
  obtain ⟨hx, hb, hr, hml, hown, hts, hlk, hin, hP, hK, hD, hS, hA, hE, hl⟩ := hB
  have hl : lv_has ls 5 [(0, .ref x0), (1, .int x_), (2, .int y_), (3, .int z_)] := hl
  have cl13 := hts (.classLink RL 13 "java/lang/IllegalArgumentException") (by decide +kernel)
  refine lv_aload_n hx hb dL_kind_0 rfl (lv_at hl 0 rfl) ?_
  refine lv_iload_n hx hb dL_kind_1 rfl (lv_at hl 1 rfl) ?_
  refine lv_iload_n hx hb dL_kind_2 rfl (lv_at hl 2 rfl) ?_
  refine lv_iload_n hx hb dL_kind_3 rfl (lv_at hl 3 rfl) ?_
  rcases k_kind l hlt g x0 Sx _ x_ y_ z_ hc with ⟨hcd, h9⟩ | ⟨hcd, W9, hI9, h9⟩
  · refine he_cv (wc := ([(x0, .inr (9, fx)), (m0, .inr (10, fm)), (aL g o0 1 fo)] ++ (Rc ++ Rm))) (wr := []) (va_runV (As := [.int x_, .int y_, .int z_]) (rest := []) ⟨hx, hb, hml, hown, hts⟩ (il_cV h9 hm H.size) (cwV 3 hts gL_kind_X10_kind rfl rfl rfl (by decide +kernel) ⟨Nat.le_of_ble_eq_true rfl, Nat.le_of_ble_eq_true rfl⟩) (he_preV (wc := ([(x0, .inr (9, fx)), (m0, .inr (10, fm)), (aL g o0 1 fo)] ++ (Rc ++ Rm))) hK hP hD hS hA hE (List.range (([(x0, .inr (9, fx)), (m0, .inr (10, fm)), (aL g o0 1 fo)] ++ (Rc ++ Rm)) : va_W).length) (he_all _) (he_allnd _) 0 rfl rfl) rfl rfl hl.1 rfl (lv_room (Nat.le_of_ble_eq_true rfl)) dL_kind_4 ⟨(Nat.le_of_ble_eq_true rfl), (Nat.le_of_ble_eq_true rfl)⟩) hP hD hS hA (List.range (([(x0, .inr (9, fx)), (m0, .inr (10, fm)), (aL g o0 1 fo)] ++ (Rc ++ Rm)) : va_W).length) [] (he_all _) rfl rfl (fun _ h9 => absurd h9 List.not_mem_nil) (fun u_2 H locs hu_3 hP hD hS => ?_)
    obtain ⟨hI9, hp4⟩ := hu_3
    obtain ⟨fx_q_4, fm_q_4, Rc_q_4, Rm_q_4, rfl, hc, hm⟩ := hI9
    have hP : va_P g.1 vwCl ([(x0, .inr (9, fx_q_4)), (m0, .inr (10, fm_q_4)), (aL g o0 1 fo)] ++ (Rc_q_4 ++ Rm_q_4)) H := hP
    have hD : va_D A ([(x0, .inr (9, fx_q_4)), (m0, .inr (10, fm_q_4)), (aL g o0 1 fo)] ++ (Rc_q_4 ++ Rm_q_4)) := hD
    refine lv_goto (tgt := 14) hx hb dL_kind_7 (by decide) ?_
    refine lv_iconst (v := 0) hx hb dL_kind_14 (by decide) ?_
    exact he_ri hQ hx hb hr hlk hP hD hS dL_kind_15 (Nat.le_of_ble_eq_true rfl) (Nat.le_of_ble_eq_true rfl) ([(x0, .inr (9, fx_q_4)), (m0, .inr (10, fm_q_4)), (aL g o0 1 fo)] ++ (Rc_q_4 ++ Rm_q_4)) rfl ⟨fo, ⟨_, _, _, _, rfl, hc, hm⟩, hcd.symm, trivial⟩
  · obtain ⟨W8, hI8, h8⟩ := il_Tv (o0 := o0) (fo := fo) h9 hI9 hm
    refine he_xv (En := "java/lang/IllegalArgumentException") (wx := W8) (wc := ([(x0, .inr (9, fx)), (m0, .inr (10, fm)), (aL g o0 1 fo)] ++ (Rc ++ Rm))) (wr := []) (vx_runV (As := [.int x_, .int y_, .int z_]) (rest := []) ⟨hx, hb, hml, hown, hts⟩ (h8 H.size) (cwV 3 hts gL_kind_X10_kind rfl rfl rfl (by decide +kernel) ⟨Nat.le_of_ble_eq_true rfl, Nat.le_of_ble_eq_true rfl⟩) (he_preV (wc := ([(x0, .inr (9, fx)), (m0, .inr (10, fm)), (aL g o0 1 fo)] ++ (Rc ++ Rm))) hK hP hD hS hA hE (List.range (([(x0, .inr (9, fx)), (m0, .inr (10, fm)), (aL g o0 1 fo)] ++ (Rc ++ Rm)) : va_W).length) (he_all _) (he_allnd _) 0 rfl rfl) rfl rfl hl.1 rfl (lv_room (Nat.le_of_ble_eq_true rfl)) dL_kind_4 ⟨(Nat.le_of_ble_eq_true rfl), (Nat.le_of_ble_eq_true rfl)⟩) hP hD hS hA (List.range (([(x0, .inr (9, fx)), (m0, .inr (10, fm)), (aL g o0 1 fo)] ++ (Rc ++ Rm)) : va_W).length) [] (he_all _) rfl rfl (fun _ h9 => absurd h9 List.not_mem_nil) (fun ce q9 H locs hP hD hS hce hcv hcl => ?_)
    obtain ⟨fx_q_5, fm_q_5, Rc_q_5, Rm_q_5, rfl, hc, hm⟩ := hI8
    have hP : va_P g.1 vwCl ([(x0, .inr (9, fx_q_5)), (m0, .inr (10, fm_q_5)), (aL g o0 1 fo)] ++ (Rc_q_5 ++ Rm_q_5)) H := hP
    have hD : va_D A ([(x0, .inr (9, fx_q_5)), (m0, .inr (10, fm_q_5)), (aL g o0 1 fo)] ++ (Rc_q_5 ++ Rm_q_5)) := hD
    refine vx_catch (name := "java/lang/IllegalArgumentException") (E := "java/lang/IllegalArgumentException") hown [] ⟨0, 7, 10, 13⟩ [] htab (fun z h9 => nomatch h9) (by decide) (by decide) cl13 (va_Nw.use rfl (hE.cast ("java/lang/IllegalArgumentException", "java/lang/IllegalArgumentException") (by decide))) hce hcv hcl ?_
    refine W.widen (k := 1) (n := 6) (Nat.le_of_ble_eq_true rfl) (Nat.le_of_ble_eq_true rfl) ?_
    refine lv_astore (lv' := [(4, .ref q9), (0, .ref x0), (1, .int x_), (2, .int y_), (3, .int z_)]) hx hb dL_kind_10 hl (by decide) rfl (fun ls hl => ?_)
    refine lv_iconst (v := 1) hx hb dL_kind_12 (by decide) ?_
    exact he_ri hQ hx hb hr hlk hP hD hS dL_kind_13 (Nat.le_of_ble_eq_true rfl) (Nat.le_of_ble_eq_true rfl) ([(x0, .inr (9, fx_q_5)), (m0, .inr (10, fm_q_5)), (aL g o0 1 fo)] ++ (Rc_q_5 ++ Rm_q_5)) rfl ⟨fo, ⟨_, _, _, _, rfl, hc, hm⟩, hcd.symm, trivial⟩
end
section
set_option maxHeartbeats 8000000 in
set_option maxRecDepth 100000 in
theorem w_seen (l : Launch) (hlt : l.stackTraces = false) (g : he_G) (x0 m0 o0 : Nat) (Sx Sm : AbS) (t : Int32) (fo : Nat → Int64) (W : va_W) (x_ : Int32) (hI : IL g x0 m0 o0 Sx Sm t fo W) : he_I l yL_seen wsL_seen 8 125 1 6 g [.ref x0, .int x_, .ref o0] W (fun (r : Int32) (W2 : va_W) => ∃ fo2 : Nat → Int64, IL g x0 m0 o0 (sp_seen Sx x_).2.2 Sm t fo2 W2 ∧ r = (sp_seen Sx x_).1 ∧ ((sp_seen Sx x_).1 = 0 → fo2 0 = Int32.toInt64 (sp_seen Sx x_).2.1)) (fun W2 => W2) := by
  obtain ⟨fx, fm, Rc, Rm, rfl, hc, hm⟩ := hI
  refine he_beginH (l := l) (g := g) (y := yL_seen) (wl := wsL_seen) (fr := 8) (lo := 125) (mc := 1) (ms := 6) (av := [.ref x0, .int x_, .ref o0]) (ws := [(x0, .inr (9, fx)), (m0, .inr (10, fm)), (aL g o0 1 fo)] ++ (Rc ++ Rm)) (cc := cL_seen) (maxL := 4) (ret := (some .int)) (hh := [(0, 9, 12, 13)]) (fun A => va_Qi (fun (r : Int32) (W2 : va_W) => ∃ fo2 : Nat → Int64, IL g x0 m0 o0 (sp_seen Sx x_).2.2 Sm t fo2 W2 ∧ r = (sp_seen Sx x_).1 ∧ ((sp_seen Sx x_).1 = 0 → fo2 0 = Int32.toInt64 (sp_seen Sx x_).2.1)) (fun u t => he_post g A ((fun (W2 : va_W) => W2) u) t) A) (by decide) rfl (Nat.le_of_ble_eq_true rfl) ?_
  intro p e s m args below meth c A ls H locs Q hQ htab hB
  obtain ⟨hx, hb, hr, hml, hown, hts, hlk, hin, hP, hK, hD, hS, hA, hE, hl⟩ := hB
  have hl : lv_has ls 4 [(0, .ref x0), (1, .int x_), (2, .ref o0)] := hl
  have cl13 := hts (.classLink RL 13 "java/lang/IllegalArgumentException") (by decide +kernel)
  refine lv_aload_n hx hb dL_seen_0 rfl (lv_at hl 2 rfl) ?_
  refine lv_iconst (v := 0) hx hb dL_seen_1 (by decide) ?_
  refine lv_aload_n hx hb dL_seen_2 rfl (lv_at hl 0 rfl) ?_
  refine lv_iload_n hx hb dL_seen_3 rfl (lv_at hl 1 rfl) ?_
  rcases k_seen l hlt g x0 Sx _ x_ hc with ⟨hcd, h9⟩ | ⟨hcd, W9, hI9, h9⟩
  · refine he_ci (wc := ([(x0, .inr (9, fx)), (m0, .inr (10, fm)), (aL g o0 1 fo)] ++ (Rc ++ Rm))) (wr := []) (va_runV (As := [.int x_]) (rest := [.int 0, .ref o0]) ⟨hx, hb, hml, hown, hts⟩ (il_cI h9 hm H.size) (cwV 1 hts gL_seen_X10_seen rfl rfl rfl (by decide +kernel) ⟨Nat.le_of_ble_eq_true rfl, Nat.le_of_ble_eq_true rfl⟩) (he_preV (wc := ([(x0, .inr (9, fx)), (m0, .inr (10, fm)), (aL g o0 1 fo)] ++ (Rc ++ Rm))) hK hP hD hS hA hE (List.range (([(x0, .inr (9, fx)), (m0, .inr (10, fm)), (aL g o0 1 fo)] ++ (Rc ++ Rm)) : va_W).length) (he_all _) (he_allnd _) 0 rfl rfl) rfl rfl hl.1 rfl (lv_room (Nat.le_of_ble_eq_true rfl)) dL_seen_4 ⟨(Nat.le_of_ble_eq_true rfl), (Nat.le_of_ble_eq_true rfl)⟩) hP hD hS hA (List.range (([(x0, .inr (9, fx)), (m0, .inr (10, fm)), (aL g o0 1 fo)] ++ (Rc ++ Rm)) : va_W).length) [] (he_all _) rfl rfl (fun _ h9 => absurd h9 List.not_mem_nil) (fun r_1 u_2 H locs hu_3 hP hD hS => ?_)
    obtain ⟨hI9, hp4⟩ := hu_3
    obtain ⟨fx_q_4, fm_q_4, Rc_q_4, Rm_q_4, rfl, hc, hm⟩ := hI9
    have hP : va_P g.1 vwCl ([(x0, .inr (9, fx_q_4)), (m0, .inr (10, fm_q_4)), (aL g o0 1 fo)] ++ (Rc_q_4 ++ Rm_q_4)) H := hP
    have hD : va_D A ([(x0, .inr (9, fx_q_4)), (m0, .inr (10, fm_q_4)), (aL g o0 1 fo)] ++ (Rc_q_4 ++ Rm_q_4)) := hD
    refine lv_i2l (v := Int32.toInt64 r_1) hx hb dL_seen_7 rfl ?_
    refine he_last hx hb hK hP hD hS 2 rfl 0 (by decide) (by decide) (by decide) dL_seen_8 (fun H locs hP hD hS => ?_)
    have hP : va_P g.1 vwCl ([(x0, .inr (9, fx_q_4)), (m0, .inr (10, fm_q_4)), (aL g o0 1 (vp_updL fo 0 (Int32.toInt64 r_1)))] ++ (Rc_q_4 ++ Rm_q_4)) H := hP
    have hD : va_D A ([(x0, .inr (9, fx_q_4)), (m0, .inr (10, fm_q_4)), (aL g o0 1 (vp_updL fo 0 (Int32.toInt64 r_1)))] ++ (Rc_q_4 ++ Rm_q_4)) := hD
    refine lv_goto (tgt := 15) hx hb dL_seen_9 (by decide) ?_
    refine lv_iconst (v := 0) hx hb dL_seen_15 (by decide) ?_
    exact he_ri hQ hx hb hr hlk hP hD hS dL_seen_16 (Nat.le_of_ble_eq_true rfl) (Nat.le_of_ble_eq_true rfl) ([(x0, .inr (9, fx_q_4)), (m0, .inr (10, fm_q_4)), (aL g o0 1 (vp_updL fo 0 (Int32.toInt64 r_1)))] ++ (Rc_q_4 ++ Rm_q_4)) rfl ⟨(vp_updL fo 0 (Int32.toInt64 r_1)), ⟨_, _, _, _, rfl, hc, hm⟩, hcd.symm, fun _ => (by rw [show (vp_updL fo 0 (Int32.toInt64 r_1)) 0 = _ from vp_updL_s _ _ _]; exact (congrArg Int32.toInt64 hp4))⟩
  · obtain ⟨W8, hI8, h8⟩ := il_Ti (o0 := o0) (fo := fo) h9 hI9 hm
    refine he_xi (En := "java/lang/IllegalArgumentException") (wx := W8) (wc := ([(x0, .inr (9, fx)), (m0, .inr (10, fm)), (aL g o0 1 fo)] ++ (Rc ++ Rm))) (wr := []) (vx_runV (As := [.int x_]) (rest := [.int 0, .ref o0]) ⟨hx, hb, hml, hown, hts⟩ (h8 H.size) (cwV 1 hts gL_seen_X10_seen rfl rfl rfl (by decide +kernel) ⟨Nat.le_of_ble_eq_true rfl, Nat.le_of_ble_eq_true rfl⟩) (he_preV (wc := ([(x0, .inr (9, fx)), (m0, .inr (10, fm)), (aL g o0 1 fo)] ++ (Rc ++ Rm))) hK hP hD hS hA hE (List.range (([(x0, .inr (9, fx)), (m0, .inr (10, fm)), (aL g o0 1 fo)] ++ (Rc ++ Rm)) : va_W).length) (he_all _) (he_allnd _) 0 rfl rfl) rfl rfl hl.1 rfl (lv_room (Nat.le_of_ble_eq_true rfl)) dL_seen_4 ⟨(Nat.le_of_ble_eq_true rfl), (Nat.le_of_ble_eq_true rfl)⟩) hP hD hS hA (List.range (([(x0, .inr (9, fx)), (m0, .inr (10, fm)), (aL g o0 1 fo)] ++ (Rc ++ Rm)) : va_W).length) [] (he_all _) rfl rfl (fun _ h9 => absurd h9 List.not_mem_nil) (fun ce q9 H locs hP hD hS hce hcv hcl => ?_)
    obtain ⟨fx_q_5, fm_q_5, Rc_q_5, Rm_q_5, rfl, hc, hm⟩ := hI8
    have hP : va_P g.1 vwCl ([(x0, .inr (9, fx_q_5)), (m0, .inr (10, fm_q_5)), (aL g o0 1 fo)] ++ (Rc_q_5 ++ Rm_q_5)) H := hP
    have hD : va_D A ([(x0, .inr (9, fx_q_5)), (m0, .inr (10, fm_q_5)), (aL g o0 1 fo)] ++ (Rc_q_5 ++ Rm_q_5)) := hD
    refine vx_catch (name := "java/lang/IllegalArgumentException") (E := "java/lang/IllegalArgumentException") hown [] ⟨0, 9, 12, 13⟩ [] htab (fun z h9 => nomatch h9) (by decide) (by decide) cl13 (va_Nw.use rfl (hE.cast ("java/lang/IllegalArgumentException", "java/lang/IllegalArgumentException") (by decide))) hce hcv hcl ?_
    refine W.widen (k := 1) (n := 6) (Nat.le_of_ble_eq_true rfl) (Nat.le_of_ble_eq_true rfl) ?_
    refine lv_astore_n (lv' := [(3, .ref q9), (0, .ref x0), (1, .int x_), (2, .ref o0)]) hx hb dL_seen_12 rfl hl (by decide) rfl (fun ls hl => ?_)
    refine lv_iconst (v := 1) hx hb dL_seen_13 (by decide) ?_
    exact he_ri hQ hx hb hr hlk hP hD hS dL_seen_14 (Nat.le_of_ble_eq_true rfl) (Nat.le_of_ble_eq_true rfl) ([(x0, .inr (9, fx_q_5)), (m0, .inr (10, fm_q_5)), (aL g o0 1 fo)] ++ (Rc_q_5 ++ Rm_q_5)) rfl ⟨fo, ⟨_, _, _, _, rfl, hc, hm⟩, hcd.symm, fun h9 => absurd (hcd.symm.trans h9) (by decide)⟩
set_option maxHeartbeats 8000000 in
set_option maxRecDepth 100000 in
theorem w_spy (l : Launch) (hlt : l.stackTraces = false) (g : he_G) (x0 m0 o0 : Nat) (Sx Sm : AbS) (t : Int32) (fo : Nat → Int64) (W : va_W) (b_ : Int32) (x_ : Int32) (hb01 : b_ = 0 ∨ b_ = 1) (hI : IL g x0 m0 o0 Sx Sm t fo W) : he_I l yL_spy wsL_spy 8 126 1 6 g [.ref x0, .int b_, .int x_, .ref o0] W (fun (r : Int32) (W2 : va_W) => ∃ fo2 : Nat → Int64, IL g x0 m0 o0 (sp_spy Sx b_ x_).2.2 Sm t fo2 W2 ∧ r = (sp_spy Sx b_ x_).1 ∧ ((sp_spy Sx b_ x_).1 = 0 → fo2 0 = Int32.toInt64 (sp_spy Sx b_ x_).2.1)) (fun W2 => W2) := by
  obtain ⟨fx, fm, Rc, Rm, rfl, hc, hm⟩ := hI
  refine he_beginH (l := l) (g := g) (y := yL_spy) (wl := wsL_spy) (fr := 8) (lo := 126) (mc := 1) (ms := 6) (av := [.ref x0, .int b_, .int x_, .ref o0]) (ws := [(x0, .inr (9, fx)), (m0, .inr (10, fm)), (aL g o0 1 fo)] ++ (Rc ++ Rm)) (cc := cL_spy) (maxL := 5) (ret := (some .int)) (hh := [(0, 10, 13, 13)]) (fun A => va_Qi (fun (r : Int32) (W2 : va_W) => ∃ fo2 : Nat → Int64, IL g x0 m0 o0 (sp_spy Sx b_ x_).2.2 Sm t fo2 W2 ∧ r = (sp_spy Sx b_ x_).1 ∧ ((sp_spy Sx b_ x_).1 = 0 → fo2 0 = Int32.toInt64 (sp_spy Sx b_ x_).2.1)) (fun u t => he_post g A ((fun (W2 : va_W) => W2) u) t) A) (by decide) rfl (Nat.le_of_ble_eq_true rfl) ?_
  intro p e s m args below meth c A ls H locs Q hQ htab hB
  obtain ⟨hx, hb, hr, hml, hown, hts, hlk, hin, hP, hK, hD, hS, hA, hE, hl⟩ := hB
  have hl : lv_has ls 5 [(0, .ref x0), (1, .int b_), (2, .int x_), (3, .ref o0)] := hl
  have cl13 := hts (.classLink RL 13 "java/lang/IllegalArgumentException") (by decide +kernel)
  refine lv_aload_n hx hb dL_spy_0 rfl (lv_at hl 3 rfl) ?_
  refine lv_iconst (v := 0) hx hb dL_spy_1 (by decide) ?_
  refine lv_aload_n hx hb dL_spy_2 rfl (lv_at hl 0 rfl) ?_
  refine lv_iload_n hx hb dL_spy_3 rfl (lv_at hl 1 rfl) ?_
  refine lv_iload_n hx hb dL_spy_4 rfl (lv_at hl 2 rfl) ?_
  rcases k_spy l hlt g x0 Sx _ b_ x_ (by first | exact Or.inl rfl | exact Or.inr rfl | assumption) hc with ⟨hcd, h9⟩ | ⟨hcd, W9, hI9, h9⟩
  · refine he_ci (wc := ([(x0, .inr (9, fx)), (m0, .inr (10, fm)), (aL g o0 1 fo)] ++ (Rc ++ Rm))) (wr := []) (va_runV (As := [.int b_, .int x_]) (rest := [.int 0, .ref o0]) ⟨hx, hb, hml, hown, hts⟩ (il_cI h9 hm H.size) (cwV 2 hts gL_spy_X10_spy rfl rfl rfl (by decide +kernel) ⟨Nat.le_of_ble_eq_true rfl, Nat.le_of_ble_eq_true rfl⟩) (he_preV (wc := ([(x0, .inr (9, fx)), (m0, .inr (10, fm)), (aL g o0 1 fo)] ++ (Rc ++ Rm))) hK hP hD hS hA hE (List.range (([(x0, .inr (9, fx)), (m0, .inr (10, fm)), (aL g o0 1 fo)] ++ (Rc ++ Rm)) : va_W).length) (he_all _) (he_allnd _) 0 rfl rfl) rfl rfl hl.1 rfl (lv_room (Nat.le_of_ble_eq_true rfl)) dL_spy_5 ⟨(Nat.le_of_ble_eq_true rfl), (Nat.le_of_ble_eq_true rfl)⟩) hP hD hS hA (List.range (([(x0, .inr (9, fx)), (m0, .inr (10, fm)), (aL g o0 1 fo)] ++ (Rc ++ Rm)) : va_W).length) [] (he_all _) rfl rfl (fun _ h9 => absurd h9 List.not_mem_nil) (fun r_1 u_2 H locs hu_3 hP hD hS => ?_)
    obtain ⟨hI9, hp5⟩ := hu_3
    obtain ⟨fx_q_4, fm_q_4, Rc_q_4, Rm_q_4, rfl, hc, hm⟩ := hI9
    have hP : va_P g.1 vwCl ([(x0, .inr (9, fx_q_4)), (m0, .inr (10, fm_q_4)), (aL g o0 1 fo)] ++ (Rc_q_4 ++ Rm_q_4)) H := hP
    have hD : va_D A ([(x0, .inr (9, fx_q_4)), (m0, .inr (10, fm_q_4)), (aL g o0 1 fo)] ++ (Rc_q_4 ++ Rm_q_4)) := hD
    refine lv_i2l (v := Int32.toInt64 r_1) hx hb dL_spy_8 rfl ?_
    refine he_last hx hb hK hP hD hS 2 rfl 0 (by decide) (by decide) (by decide) dL_spy_9 (fun H locs hP hD hS => ?_)
    have hP : va_P g.1 vwCl ([(x0, .inr (9, fx_q_4)), (m0, .inr (10, fm_q_4)), (aL g o0 1 (vp_updL fo 0 (Int32.toInt64 r_1)))] ++ (Rc_q_4 ++ Rm_q_4)) H := hP
    have hD : va_D A ([(x0, .inr (9, fx_q_4)), (m0, .inr (10, fm_q_4)), (aL g o0 1 (vp_updL fo 0 (Int32.toInt64 r_1)))] ++ (Rc_q_4 ++ Rm_q_4)) := hD
    refine lv_goto (tgt := 17) hx hb dL_spy_10 (by decide) ?_
    refine lv_iconst (v := 0) hx hb dL_spy_17 (by decide) ?_
    exact he_ri hQ hx hb hr hlk hP hD hS dL_spy_18 (Nat.le_of_ble_eq_true rfl) (Nat.le_of_ble_eq_true rfl) ([(x0, .inr (9, fx_q_4)), (m0, .inr (10, fm_q_4)), (aL g o0 1 (vp_updL fo 0 (Int32.toInt64 r_1)))] ++ (Rc_q_4 ++ Rm_q_4)) rfl ⟨(vp_updL fo 0 (Int32.toInt64 r_1)), ⟨_, _, _, _, rfl, hc, hm⟩, hcd.symm, fun _ => (by rw [show (vp_updL fo 0 (Int32.toInt64 r_1)) 0 = _ from vp_updL_s _ _ _]; exact (congrArg Int32.toInt64 hp5))⟩
  · obtain ⟨W8, hI8, h8⟩ := il_Ti (o0 := o0) (fo := fo) h9 hI9 hm
    refine he_xi (En := "java/lang/IllegalArgumentException") (wx := W8) (wc := ([(x0, .inr (9, fx)), (m0, .inr (10, fm)), (aL g o0 1 fo)] ++ (Rc ++ Rm))) (wr := []) (vx_runV (As := [.int b_, .int x_]) (rest := [.int 0, .ref o0]) ⟨hx, hb, hml, hown, hts⟩ (h8 H.size) (cwV 2 hts gL_spy_X10_spy rfl rfl rfl (by decide +kernel) ⟨Nat.le_of_ble_eq_true rfl, Nat.le_of_ble_eq_true rfl⟩) (he_preV (wc := ([(x0, .inr (9, fx)), (m0, .inr (10, fm)), (aL g o0 1 fo)] ++ (Rc ++ Rm))) hK hP hD hS hA hE (List.range (([(x0, .inr (9, fx)), (m0, .inr (10, fm)), (aL g o0 1 fo)] ++ (Rc ++ Rm)) : va_W).length) (he_all _) (he_allnd _) 0 rfl rfl) rfl rfl hl.1 rfl (lv_room (Nat.le_of_ble_eq_true rfl)) dL_spy_5 ⟨(Nat.le_of_ble_eq_true rfl), (Nat.le_of_ble_eq_true rfl)⟩) hP hD hS hA (List.range (([(x0, .inr (9, fx)), (m0, .inr (10, fm)), (aL g o0 1 fo)] ++ (Rc ++ Rm)) : va_W).length) [] (he_all _) rfl rfl (fun _ h9 => absurd h9 List.not_mem_nil) (fun ce q9 H locs hP hD hS hce hcv hcl => ?_)
    obtain ⟨fx_q_5, fm_q_5, Rc_q_5, Rm_q_5, rfl, hc, hm⟩ := hI8
    have hP : va_P g.1 vwCl ([(x0, .inr (9, fx_q_5)), (m0, .inr (10, fm_q_5)), (aL g o0 1 fo)] ++ (Rc_q_5 ++ Rm_q_5)) H := hP
    have hD : va_D A ([(x0, .inr (9, fx_q_5)), (m0, .inr (10, fm_q_5)), (aL g o0 1 fo)] ++ (Rc_q_5 ++ Rm_q_5)) := hD
    refine vx_catch (name := "java/lang/IllegalArgumentException") (E := "java/lang/IllegalArgumentException") hown [] ⟨0, 10, 13, 13⟩ [] htab (fun z h9 => nomatch h9) (by decide) (by decide) cl13 (va_Nw.use rfl (hE.cast ("java/lang/IllegalArgumentException", "java/lang/IllegalArgumentException") (by decide))) hce hcv hcl ?_
    refine W.widen (k := 1) (n := 6) (Nat.le_of_ble_eq_true rfl) (Nat.le_of_ble_eq_true rfl) ?_
    refine lv_astore (lv' := [(4, .ref q9), (0, .ref x0), (1, .int b_), (2, .int x_), (3, .ref o0)]) hx hb dL_spy_13 hl (by decide) rfl (fun ls hl => ?_)
    refine lv_iconst (v := 1) hx hb dL_spy_15 (by decide) ?_
    exact he_ri hQ hx hb hr hlk hP hD hS dL_spy_16 (Nat.le_of_ble_eq_true rfl) (Nat.le_of_ble_eq_true rfl) ([(x0, .inr (9, fx_q_5)), (m0, .inr (10, fm_q_5)), (aL g o0 1 fo)] ++ (Rc_q_5 ++ Rm_q_5)) rfl ⟨fo, ⟨_, _, _, _, rfl, hc, hm⟩, hcd.symm, fun h9 => absurd (hcd.symm.trans h9) (by decide)⟩
set_option maxHeartbeats 8000000 in
set_option maxRecDepth 100000 in
theorem w_believed (l : Launch) (hlt : l.stackTraces = false) (g : he_G) (x0 m0 o0 : Nat) (Sx Sm : AbS) (t : Int32) (fo : Nat → Int64) (W : va_W) (x_ : Int32) (hI : IL g x0 m0 o0 Sx Sm t fo W) : he_I l yL_believed wsL_believed 8 124 1 6 g [.ref x0, .int x_, .ref o0] W (fun (r : Int32) (W2 : va_W) => ∃ fo2 : Nat → Int64, IL g x0 m0 o0 (sp_believed Sx x_).2.2 Sm t fo2 W2 ∧ r = (sp_believed Sx x_).1 ∧ True) (fun W2 => W2) := by
  obtain ⟨fx, fm, Rc, Rm, rfl, hc, hm⟩ := hI
  refine he_beginH (l := l) (g := g) (y := yL_believed) (wl := wsL_believed) (fr := 8) (lo := 124) (mc := 1) (ms := 6) (av := [.ref x0, .int x_, .ref o0]) (ws := [(x0, .inr (9, fx)), (m0, .inr (10, fm)), (aL g o0 1 fo)] ++ (Rc ++ Rm)) (cc := cL_believed) (maxL := 4) (ret := (some .int)) (hh := [(0, 8, 11, 13)]) (fun A => va_Qi (fun (r : Int32) (W2 : va_W) => ∃ fo2 : Nat → Int64, IL g x0 m0 o0 (sp_believed Sx x_).2.2 Sm t fo2 W2 ∧ r = (sp_believed Sx x_).1 ∧ True) (fun u t => he_post g A ((fun (W2 : va_W) => W2) u) t) A) (by decide) rfl (Nat.le_of_ble_eq_true rfl) ?_
  intro p e s m args below meth c A ls H locs Q hQ htab hB
  obtain ⟨hx, hb, hr, hml, hown, hts, hlk, hin, hP, hK, hD, hS, hA, hE, hl⟩ := hB
  have hl : lv_has ls 4 [(0, .ref x0), (1, .int x_), (2, .ref o0)] := hl
  have cl13 := hts (.classLink RL 13 "java/lang/IllegalArgumentException") (by decide +kernel)
  refine lv_aload_n hx hb dL_believed_0 rfl (lv_at hl 2 rfl) ?_
  refine lv_iconst (v := 0) hx hb dL_believed_1 (by decide) ?_
  refine lv_aload_n hx hb dL_believed_2 rfl (lv_at hl 0 rfl) ?_
  refine lv_iload_n hx hb dL_believed_3 rfl (lv_at hl 1 rfl) ?_
  rcases k_believed l hlt g x0 Sx _ x_ hc with ⟨hcd, h9⟩ | ⟨hcd, W9, hI9, h9⟩
  · refine he_cj (wc := ([(x0, .inr (9, fx)), (m0, .inr (10, fm)), (aL g o0 1 fo)] ++ (Rc ++ Rm))) (wr := []) (va_runV (As := [.int x_]) (rest := [.int 0, .ref o0]) ⟨hx, hb, hml, hown, hts⟩ (il_cJ h9 hm H.size) (cwV 1 hts gL_believed_X10_believed rfl rfl rfl (by decide +kernel) ⟨Nat.le_of_ble_eq_true rfl, Nat.le_of_ble_eq_true rfl⟩) (he_preV (wc := ([(x0, .inr (9, fx)), (m0, .inr (10, fm)), (aL g o0 1 fo)] ++ (Rc ++ Rm))) hK hP hD hS hA hE (List.range (([(x0, .inr (9, fx)), (m0, .inr (10, fm)), (aL g o0 1 fo)] ++ (Rc ++ Rm)) : va_W).length) (he_all _) (he_allnd _) 0 rfl rfl) rfl rfl hl.1 rfl (lv_room (Nat.le_of_ble_eq_true rfl)) dL_believed_4 ⟨(Nat.le_of_ble_eq_true rfl), (Nat.le_of_ble_eq_true rfl)⟩) hP hD hS hA (List.range (([(x0, .inr (9, fx)), (m0, .inr (10, fm)), (aL g o0 1 fo)] ++ (Rc ++ Rm)) : va_W).length) [] (he_all _) rfl rfl (fun _ h9 => absurd h9 List.not_mem_nil) (fun r_1 u_2 H locs hu_3 hP hD hS => ?_)
    obtain ⟨hI9, hp4⟩ := hu_3
    obtain ⟨fx_q_4, fm_q_4, Rc_q_4, Rm_q_4, rfl, hc, hm⟩ := hI9
    have hP : va_P g.1 vwCl ([(x0, .inr (9, fx_q_4)), (m0, .inr (10, fm_q_4)), (aL g o0 1 fo)] ++ (Rc_q_4 ++ Rm_q_4)) H := hP
    have hD : va_D A ([(x0, .inr (9, fx_q_4)), (m0, .inr (10, fm_q_4)), (aL g o0 1 fo)] ++ (Rc_q_4 ++ Rm_q_4)) := hD
    refine he_last hx hb hK hP hD hS 2 rfl 0 (by decide) (by decide) (by decide) dL_believed_7 (fun H locs hP hD hS => ?_)
    have hP : va_P g.1 vwCl ([(x0, .inr (9, fx_q_4)), (m0, .inr (10, fm_q_4)), (aL g o0 1 (vp_updL fo 0 r_1))] ++ (Rc_q_4 ++ Rm_q_4)) H := hP
    have hD : va_D A ([(x0, .inr (9, fx_q_4)), (m0, .inr (10, fm_q_4)), (aL g o0 1 (vp_updL fo 0 r_1))] ++ (Rc_q_4 ++ Rm_q_4)) := hD
    refine lv_goto (tgt := 14) hx hb dL_believed_8 (by decide) ?_
    refine lv_iconst (v := 0) hx hb dL_believed_14 (by decide) ?_
    exact he_ri hQ hx hb hr hlk hP hD hS dL_believed_15 (Nat.le_of_ble_eq_true rfl) (Nat.le_of_ble_eq_true rfl) ([(x0, .inr (9, fx_q_4)), (m0, .inr (10, fm_q_4)), (aL g o0 1 (vp_updL fo 0 r_1))] ++ (Rc_q_4 ++ Rm_q_4)) rfl ⟨(vp_updL fo 0 r_1), ⟨_, _, _, _, rfl, hc, hm⟩, hcd.symm, trivial⟩
  · obtain ⟨W8, hI8, h8⟩ := il_Tj (o0 := o0) (fo := fo) h9 hI9 hm
    refine he_xj (En := "java/lang/IllegalArgumentException") (wx := W8) (wc := ([(x0, .inr (9, fx)), (m0, .inr (10, fm)), (aL g o0 1 fo)] ++ (Rc ++ Rm))) (wr := []) (vx_runV (As := [.int x_]) (rest := [.int 0, .ref o0]) ⟨hx, hb, hml, hown, hts⟩ (h8 H.size) (cwV 1 hts gL_believed_X10_believed rfl rfl rfl (by decide +kernel) ⟨Nat.le_of_ble_eq_true rfl, Nat.le_of_ble_eq_true rfl⟩) (he_preV (wc := ([(x0, .inr (9, fx)), (m0, .inr (10, fm)), (aL g o0 1 fo)] ++ (Rc ++ Rm))) hK hP hD hS hA hE (List.range (([(x0, .inr (9, fx)), (m0, .inr (10, fm)), (aL g o0 1 fo)] ++ (Rc ++ Rm)) : va_W).length) (he_all _) (he_allnd _) 0 rfl rfl) rfl rfl hl.1 rfl (lv_room (Nat.le_of_ble_eq_true rfl)) dL_believed_4 ⟨(Nat.le_of_ble_eq_true rfl), (Nat.le_of_ble_eq_true rfl)⟩) hP hD hS hA (List.range (([(x0, .inr (9, fx)), (m0, .inr (10, fm)), (aL g o0 1 fo)] ++ (Rc ++ Rm)) : va_W).length) [] (he_all _) rfl rfl (fun _ h9 => absurd h9 List.not_mem_nil) (fun ce q9 H locs hP hD hS hce hcv hcl => ?_)
    obtain ⟨fx_q_5, fm_q_5, Rc_q_5, Rm_q_5, rfl, hc, hm⟩ := hI8
    have hP : va_P g.1 vwCl ([(x0, .inr (9, fx_q_5)), (m0, .inr (10, fm_q_5)), (aL g o0 1 fo)] ++ (Rc_q_5 ++ Rm_q_5)) H := hP
    have hD : va_D A ([(x0, .inr (9, fx_q_5)), (m0, .inr (10, fm_q_5)), (aL g o0 1 fo)] ++ (Rc_q_5 ++ Rm_q_5)) := hD
    refine vx_catch (name := "java/lang/IllegalArgumentException") (E := "java/lang/IllegalArgumentException") hown [] ⟨0, 8, 11, 13⟩ [] htab (fun z h9 => nomatch h9) (by decide) (by decide) cl13 (va_Nw.use rfl (hE.cast ("java/lang/IllegalArgumentException", "java/lang/IllegalArgumentException") (by decide))) hce hcv hcl ?_
    refine W.widen (k := 1) (n := 6) (Nat.le_of_ble_eq_true rfl) (Nat.le_of_ble_eq_true rfl) ?_
    refine lv_astore_n (lv' := [(3, .ref q9), (0, .ref x0), (1, .int x_), (2, .ref o0)]) hx hb dL_believed_11 rfl hl (by decide) rfl (fun ls hl => ?_)
    refine lv_iconst (v := 1) hx hb dL_believed_12 (by decide) ?_
    exact he_ri hQ hx hb hr hlk hP hD hS dL_believed_13 (Nat.le_of_ble_eq_true rfl) (Nat.le_of_ble_eq_true rfl) ([(x0, .inr (9, fx_q_5)), (m0, .inr (10, fm_q_5)), (aL g o0 1 fo)] ++ (Rc_q_5 ++ Rm_q_5)) rfl ⟨fo, ⟨_, _, _, _, rfl, hc, hm⟩, hcd.symm, trivial⟩
set_option maxHeartbeats 8000000 in
set_option maxRecDepth 100000 in
theorem w_earnest (l : Launch) (hlt : l.stackTraces = false) (g : he_G) (x0 m0 o0 : Nat) (Sx Sm : AbS) (t : Int32) (fo : Nat → Int64) (W : va_W) (x_ : Int32) (y_ : Int32) (z_ : Int32) (hOk : okS Sx) (hI : IL g x0 m0 o0 Sx Sm t fo W) : he_I l yL_earnest wsL_earnest 8 126 1 6 g [.ref x0, .int x_, .int y_, .int z_, .ref o0] W (fun (r : Int32) (W2 : va_W) => ∃ fo2 : Nat → Int64, IL g x0 m0 o0 (sp_earnest Sx x_ y_ z_).2.2 Sm t fo2 W2 ∧ r = (sp_earnest Sx x_ y_ z_).1 ∧ ((sp_earnest Sx x_ y_ z_).1 = 0 → fo2 0 = Int32.toInt64 (sp_earnest Sx x_ y_ z_).2.1)) (fun W2 => W2) := by
  obtain ⟨fx, fm, Rc, Rm, rfl, hc, hm⟩ := hI
  refine he_beginH (l := l) (g := g) (y := yL_earnest) (wl := wsL_earnest) (fr := 8) (lo := 126) (mc := 1) (ms := 6) (av := [.ref x0, .int x_, .int y_, .int z_, .ref o0]) (ws := [(x0, .inr (9, fx)), (m0, .inr (10, fm)), (aL g o0 1 fo)] ++ (Rc ++ Rm)) (cc := cL_earnest) (maxL := 6) (ret := (some .int)) (hh := [(0, 12, 15, 13)]) (fun A => va_Qi (fun (r : Int32) (W2 : va_W) => ∃ fo2 : Nat → Int64, IL g x0 m0 o0 (sp_earnest Sx x_ y_ z_).2.2 Sm t fo2 W2 ∧ r = (sp_earnest Sx x_ y_ z_).1 ∧ ((sp_earnest Sx x_ y_ z_).1 = 0 → fo2 0 = Int32.toInt64 (sp_earnest Sx x_ y_ z_).2.1)) (fun u t => he_post g A ((fun (W2 : va_W) => W2) u) t) A) (by decide) rfl (Nat.le_of_ble_eq_true rfl) ?_
  intro p e s m args below meth c A ls H locs Q hQ htab hB
  obtain ⟨hx, hb, hr, hml, hown, hts, hlk, hin, hP, hK, hD, hS, hA, hE, hl⟩ := hB
  have hl : lv_has ls 6 [(0, .ref x0), (1, .int x_), (2, .int y_), (3, .int z_), (4, .ref o0)] := hl
  have cl13 := hts (.classLink RL 13 "java/lang/IllegalArgumentException") (by decide +kernel)
  refine lv_aload hx hb dL_earnest_0 (lv_at hl 4 rfl) ?_
  refine lv_iconst (v := 0) hx hb dL_earnest_2 (by decide) ?_
  refine lv_aload_n hx hb dL_earnest_3 rfl (lv_at hl 0 rfl) ?_
  refine lv_iload_n hx hb dL_earnest_4 rfl (lv_at hl 1 rfl) ?_
  refine lv_iload_n hx hb dL_earnest_5 rfl (lv_at hl 2 rfl) ?_
  refine lv_iload_n hx hb dL_earnest_6 rfl (lv_at hl 3 rfl) ?_
  rcases k_earnest l hlt g x0 Sx _ x_ y_ z_ hOk hc with ⟨hcd, h9⟩ | ⟨hcd, W9, hI9, h9⟩
  · refine he_ci (wc := ([(x0, .inr (9, fx)), (m0, .inr (10, fm)), (aL g o0 1 fo)] ++ (Rc ++ Rm))) (wr := []) (va_runV (As := [.int x_, .int y_, .int z_]) (rest := [.int 0, .ref o0]) ⟨hx, hb, hml, hown, hts⟩ (il_cI h9 hm H.size) (cwV 3 hts gL_earnest_X10_earnest rfl rfl rfl (by decide +kernel) ⟨Nat.le_of_ble_eq_true rfl, Nat.le_of_ble_eq_true rfl⟩) (he_preV (wc := ([(x0, .inr (9, fx)), (m0, .inr (10, fm)), (aL g o0 1 fo)] ++ (Rc ++ Rm))) hK hP hD hS hA hE (List.range (([(x0, .inr (9, fx)), (m0, .inr (10, fm)), (aL g o0 1 fo)] ++ (Rc ++ Rm)) : va_W).length) (he_all _) (he_allnd _) 0 rfl rfl) rfl rfl hl.1 rfl (lv_room (Nat.le_of_ble_eq_true rfl)) dL_earnest_7 ⟨(Nat.le_of_ble_eq_true rfl), (Nat.le_of_ble_eq_true rfl)⟩) hP hD hS hA (List.range (([(x0, .inr (9, fx)), (m0, .inr (10, fm)), (aL g o0 1 fo)] ++ (Rc ++ Rm)) : va_W).length) [] (he_all _) rfl rfl (fun _ h9 => absurd h9 List.not_mem_nil) (fun r_1 u_2 H locs hu_3 hP hD hS => ?_)
    obtain ⟨hI9, hp7⟩ := hu_3
    obtain ⟨fx_q_4, fm_q_4, Rc_q_4, Rm_q_4, rfl, hc, hm⟩ := hI9
    have hP : va_P g.1 vwCl ([(x0, .inr (9, fx_q_4)), (m0, .inr (10, fm_q_4)), (aL g o0 1 fo)] ++ (Rc_q_4 ++ Rm_q_4)) H := hP
    have hD : va_D A ([(x0, .inr (9, fx_q_4)), (m0, .inr (10, fm_q_4)), (aL g o0 1 fo)] ++ (Rc_q_4 ++ Rm_q_4)) := hD
    refine lv_i2l (v := Int32.toInt64 r_1) hx hb dL_earnest_10 rfl ?_
    refine he_last hx hb hK hP hD hS 2 rfl 0 (by decide) (by decide) (by decide) dL_earnest_11 (fun H locs hP hD hS => ?_)
    have hP : va_P g.1 vwCl ([(x0, .inr (9, fx_q_4)), (m0, .inr (10, fm_q_4)), (aL g o0 1 (vp_updL fo 0 (Int32.toInt64 r_1)))] ++ (Rc_q_4 ++ Rm_q_4)) H := hP
    have hD : va_D A ([(x0, .inr (9, fx_q_4)), (m0, .inr (10, fm_q_4)), (aL g o0 1 (vp_updL fo 0 (Int32.toInt64 r_1)))] ++ (Rc_q_4 ++ Rm_q_4)) := hD
    refine lv_goto (tgt := 19) hx hb dL_earnest_12 (by decide) ?_
    refine lv_iconst (v := 0) hx hb dL_earnest_19 (by decide) ?_
    exact he_ri hQ hx hb hr hlk hP hD hS dL_earnest_20 (Nat.le_of_ble_eq_true rfl) (Nat.le_of_ble_eq_true rfl) ([(x0, .inr (9, fx_q_4)), (m0, .inr (10, fm_q_4)), (aL g o0 1 (vp_updL fo 0 (Int32.toInt64 r_1)))] ++ (Rc_q_4 ++ Rm_q_4)) rfl ⟨(vp_updL fo 0 (Int32.toInt64 r_1)), ⟨_, _, _, _, rfl, hc, hm⟩, hcd.symm, fun _ => (by rw [show (vp_updL fo 0 (Int32.toInt64 r_1)) 0 = _ from vp_updL_s _ _ _]; exact (congrArg Int32.toInt64 hp7))⟩
  · obtain ⟨W8, hI8, h8⟩ := il_Ti (o0 := o0) (fo := fo) h9 hI9 hm
    refine he_xi (En := "java/lang/IllegalArgumentException") (wx := W8) (wc := ([(x0, .inr (9, fx)), (m0, .inr (10, fm)), (aL g o0 1 fo)] ++ (Rc ++ Rm))) (wr := []) (vx_runV (As := [.int x_, .int y_, .int z_]) (rest := [.int 0, .ref o0]) ⟨hx, hb, hml, hown, hts⟩ (h8 H.size) (cwV 3 hts gL_earnest_X10_earnest rfl rfl rfl (by decide +kernel) ⟨Nat.le_of_ble_eq_true rfl, Nat.le_of_ble_eq_true rfl⟩) (he_preV (wc := ([(x0, .inr (9, fx)), (m0, .inr (10, fm)), (aL g o0 1 fo)] ++ (Rc ++ Rm))) hK hP hD hS hA hE (List.range (([(x0, .inr (9, fx)), (m0, .inr (10, fm)), (aL g o0 1 fo)] ++ (Rc ++ Rm)) : va_W).length) (he_all _) (he_allnd _) 0 rfl rfl) rfl rfl hl.1 rfl (lv_room (Nat.le_of_ble_eq_true rfl)) dL_earnest_7 ⟨(Nat.le_of_ble_eq_true rfl), (Nat.le_of_ble_eq_true rfl)⟩) hP hD hS hA (List.range (([(x0, .inr (9, fx)), (m0, .inr (10, fm)), (aL g o0 1 fo)] ++ (Rc ++ Rm)) : va_W).length) [] (he_all _) rfl rfl (fun _ h9 => absurd h9 List.not_mem_nil) (fun ce q9 H locs hP hD hS hce hcv hcl => ?_)
    obtain ⟨fx_q_5, fm_q_5, Rc_q_5, Rm_q_5, rfl, hc, hm⟩ := hI8
    have hP : va_P g.1 vwCl ([(x0, .inr (9, fx_q_5)), (m0, .inr (10, fm_q_5)), (aL g o0 1 fo)] ++ (Rc_q_5 ++ Rm_q_5)) H := hP
    have hD : va_D A ([(x0, .inr (9, fx_q_5)), (m0, .inr (10, fm_q_5)), (aL g o0 1 fo)] ++ (Rc_q_5 ++ Rm_q_5)) := hD
    refine vx_catch (name := "java/lang/IllegalArgumentException") (E := "java/lang/IllegalArgumentException") hown [] ⟨0, 12, 15, 13⟩ [] htab (fun z h9 => nomatch h9) (by decide) (by decide) cl13 (va_Nw.use rfl (hE.cast ("java/lang/IllegalArgumentException", "java/lang/IllegalArgumentException") (by decide))) hce hcv hcl ?_
    refine W.widen (k := 1) (n := 6) (Nat.le_of_ble_eq_true rfl) (Nat.le_of_ble_eq_true rfl) ?_
    refine lv_astore (lv' := [(5, .ref q9), (0, .ref x0), (1, .int x_), (2, .int y_), (3, .int z_), (4, .ref o0)]) hx hb dL_earnest_15 hl (by decide) rfl (fun ls hl => ?_)
    refine lv_iconst (v := 1) hx hb dL_earnest_17 (by decide) ?_
    exact he_ri hQ hx hb hr hlk hP hD hS dL_earnest_18 (Nat.le_of_ble_eq_true rfl) (Nat.le_of_ble_eq_true rfl) ([(x0, .inr (9, fx_q_5)), (m0, .inr (10, fm_q_5)), (aL g o0 1 fo)] ++ (Rc_q_5 ++ Rm_q_5)) rfl ⟨fo, ⟨_, _, _, _, rfl, hc, hm⟩, hcd.symm, fun h9 => absurd (hcd.symm.trans h9) (by decide)⟩
set_option maxHeartbeats 8000000 in
set_option maxRecDepth 100000 in
theorem w_stands (l : Launch) (hlt : l.stackTraces = false) (g : he_G) (x0 m0 o0 : Nat) (Sx Sm : AbS) (t : Int32) (fo : Nat → Int64) (W : va_W) (x_ : Int32) (y_ : Int32) (hOk : okS Sx) (hI : IL g x0 m0 o0 Sx Sm t fo W) : he_I l yL_stands wsL_stands 8 125 1 6 g [.ref x0, .int x_, .int y_, .ref o0] W (fun (r : Int32) (W2 : va_W) => ∃ fo2 : Nat → Int64, IL g x0 m0 o0 (sp_stands Sx x_ y_).2.2 Sm t fo2 W2 ∧ r = (sp_stands Sx x_ y_).1 ∧ ((sp_stands Sx x_ y_).1 = 0 → fo2 0 = Int32.toInt64 (sp_stands Sx x_ y_).2.1)) (fun W2 => W2) := by
  obtain ⟨fx, fm, Rc, Rm, rfl, hc, hm⟩ := hI
  refine he_beginH (l := l) (g := g) (y := yL_stands) (wl := wsL_stands) (fr := 8) (lo := 125) (mc := 1) (ms := 6) (av := [.ref x0, .int x_, .int y_, .ref o0]) (ws := [(x0, .inr (9, fx)), (m0, .inr (10, fm)), (aL g o0 1 fo)] ++ (Rc ++ Rm)) (cc := cL_stands) (maxL := 5) (ret := (some .int)) (hh := [(0, 10, 13, 13)]) (fun A => va_Qi (fun (r : Int32) (W2 : va_W) => ∃ fo2 : Nat → Int64, IL g x0 m0 o0 (sp_stands Sx x_ y_).2.2 Sm t fo2 W2 ∧ r = (sp_stands Sx x_ y_).1 ∧ ((sp_stands Sx x_ y_).1 = 0 → fo2 0 = Int32.toInt64 (sp_stands Sx x_ y_).2.1)) (fun u t => he_post g A ((fun (W2 : va_W) => W2) u) t) A) (by decide) rfl (Nat.le_of_ble_eq_true rfl) ?_
  intro p e s m args below meth c A ls H locs Q hQ htab hB
  obtain ⟨hx, hb, hr, hml, hown, hts, hlk, hin, hP, hK, hD, hS, hA, hE, hl⟩ := hB
  have hl : lv_has ls 5 [(0, .ref x0), (1, .int x_), (2, .int y_), (3, .ref o0)] := hl
  have cl13 := hts (.classLink RL 13 "java/lang/IllegalArgumentException") (by decide +kernel)
  refine lv_aload_n hx hb dL_stands_0 rfl (lv_at hl 3 rfl) ?_
  refine lv_iconst (v := 0) hx hb dL_stands_1 (by decide) ?_
  refine lv_aload_n hx hb dL_stands_2 rfl (lv_at hl 0 rfl) ?_
  refine lv_iload_n hx hb dL_stands_3 rfl (lv_at hl 1 rfl) ?_
  refine lv_iload_n hx hb dL_stands_4 rfl (lv_at hl 2 rfl) ?_
  rcases k_stands l hlt g x0 Sx _ x_ y_ hOk hc with ⟨hcd, h9⟩ | ⟨hcd, W9, hI9, h9⟩
  · refine he_ci (wc := ([(x0, .inr (9, fx)), (m0, .inr (10, fm)), (aL g o0 1 fo)] ++ (Rc ++ Rm))) (wr := []) (va_runV (As := [.int x_, .int y_]) (rest := [.int 0, .ref o0]) ⟨hx, hb, hml, hown, hts⟩ (il_cI h9 hm H.size) (cwV 2 hts gL_stands_X10_stands rfl rfl rfl (by decide +kernel) ⟨Nat.le_of_ble_eq_true rfl, Nat.le_of_ble_eq_true rfl⟩) (he_preV (wc := ([(x0, .inr (9, fx)), (m0, .inr (10, fm)), (aL g o0 1 fo)] ++ (Rc ++ Rm))) hK hP hD hS hA hE (List.range (([(x0, .inr (9, fx)), (m0, .inr (10, fm)), (aL g o0 1 fo)] ++ (Rc ++ Rm)) : va_W).length) (he_all _) (he_allnd _) 0 rfl rfl) rfl rfl hl.1 rfl (lv_room (Nat.le_of_ble_eq_true rfl)) dL_stands_5 ⟨(Nat.le_of_ble_eq_true rfl), (Nat.le_of_ble_eq_true rfl)⟩) hP hD hS hA (List.range (([(x0, .inr (9, fx)), (m0, .inr (10, fm)), (aL g o0 1 fo)] ++ (Rc ++ Rm)) : va_W).length) [] (he_all _) rfl rfl (fun _ h9 => absurd h9 List.not_mem_nil) (fun r_1 u_2 H locs hu_3 hP hD hS => ?_)
    obtain ⟨hI9, hp5⟩ := hu_3
    obtain ⟨fx_q_4, fm_q_4, Rc_q_4, Rm_q_4, rfl, hc, hm⟩ := hI9
    have hP : va_P g.1 vwCl ([(x0, .inr (9, fx_q_4)), (m0, .inr (10, fm_q_4)), (aL g o0 1 fo)] ++ (Rc_q_4 ++ Rm_q_4)) H := hP
    have hD : va_D A ([(x0, .inr (9, fx_q_4)), (m0, .inr (10, fm_q_4)), (aL g o0 1 fo)] ++ (Rc_q_4 ++ Rm_q_4)) := hD
    refine lv_i2l (v := Int32.toInt64 r_1) hx hb dL_stands_8 rfl ?_
    refine he_last hx hb hK hP hD hS 2 rfl 0 (by decide) (by decide) (by decide) dL_stands_9 (fun H locs hP hD hS => ?_)
    have hP : va_P g.1 vwCl ([(x0, .inr (9, fx_q_4)), (m0, .inr (10, fm_q_4)), (aL g o0 1 (vp_updL fo 0 (Int32.toInt64 r_1)))] ++ (Rc_q_4 ++ Rm_q_4)) H := hP
    have hD : va_D A ([(x0, .inr (9, fx_q_4)), (m0, .inr (10, fm_q_4)), (aL g o0 1 (vp_updL fo 0 (Int32.toInt64 r_1)))] ++ (Rc_q_4 ++ Rm_q_4)) := hD
    refine lv_goto (tgt := 17) hx hb dL_stands_10 (by decide) ?_
    refine lv_iconst (v := 0) hx hb dL_stands_17 (by decide) ?_
    exact he_ri hQ hx hb hr hlk hP hD hS dL_stands_18 (Nat.le_of_ble_eq_true rfl) (Nat.le_of_ble_eq_true rfl) ([(x0, .inr (9, fx_q_4)), (m0, .inr (10, fm_q_4)), (aL g o0 1 (vp_updL fo 0 (Int32.toInt64 r_1)))] ++ (Rc_q_4 ++ Rm_q_4)) rfl ⟨(vp_updL fo 0 (Int32.toInt64 r_1)), ⟨_, _, _, _, rfl, hc, hm⟩, hcd.symm, fun _ => (by rw [show (vp_updL fo 0 (Int32.toInt64 r_1)) 0 = _ from vp_updL_s _ _ _]; exact (congrArg Int32.toInt64 hp5))⟩
  · obtain ⟨W8, hI8, h8⟩ := il_Ti (o0 := o0) (fo := fo) h9 hI9 hm
    refine he_xi (En := "java/lang/IllegalArgumentException") (wx := W8) (wc := ([(x0, .inr (9, fx)), (m0, .inr (10, fm)), (aL g o0 1 fo)] ++ (Rc ++ Rm))) (wr := []) (vx_runV (As := [.int x_, .int y_]) (rest := [.int 0, .ref o0]) ⟨hx, hb, hml, hown, hts⟩ (h8 H.size) (cwV 2 hts gL_stands_X10_stands rfl rfl rfl (by decide +kernel) ⟨Nat.le_of_ble_eq_true rfl, Nat.le_of_ble_eq_true rfl⟩) (he_preV (wc := ([(x0, .inr (9, fx)), (m0, .inr (10, fm)), (aL g o0 1 fo)] ++ (Rc ++ Rm))) hK hP hD hS hA hE (List.range (([(x0, .inr (9, fx)), (m0, .inr (10, fm)), (aL g o0 1 fo)] ++ (Rc ++ Rm)) : va_W).length) (he_all _) (he_allnd _) 0 rfl rfl) rfl rfl hl.1 rfl (lv_room (Nat.le_of_ble_eq_true rfl)) dL_stands_5 ⟨(Nat.le_of_ble_eq_true rfl), (Nat.le_of_ble_eq_true rfl)⟩) hP hD hS hA (List.range (([(x0, .inr (9, fx)), (m0, .inr (10, fm)), (aL g o0 1 fo)] ++ (Rc ++ Rm)) : va_W).length) [] (he_all _) rfl rfl (fun _ h9 => absurd h9 List.not_mem_nil) (fun ce q9 H locs hP hD hS hce hcv hcl => ?_)
    obtain ⟨fx_q_5, fm_q_5, Rc_q_5, Rm_q_5, rfl, hc, hm⟩ := hI8
    have hP : va_P g.1 vwCl ([(x0, .inr (9, fx_q_5)), (m0, .inr (10, fm_q_5)), (aL g o0 1 fo)] ++ (Rc_q_5 ++ Rm_q_5)) H := hP
    have hD : va_D A ([(x0, .inr (9, fx_q_5)), (m0, .inr (10, fm_q_5)), (aL g o0 1 fo)] ++ (Rc_q_5 ++ Rm_q_5)) := hD
    refine vx_catch (name := "java/lang/IllegalArgumentException") (E := "java/lang/IllegalArgumentException") hown [] ⟨0, 10, 13, 13⟩ [] htab (fun z h9 => nomatch h9) (by decide) (by decide) cl13 (va_Nw.use rfl (hE.cast ("java/lang/IllegalArgumentException", "java/lang/IllegalArgumentException") (by decide))) hce hcv hcl ?_
    refine W.widen (k := 1) (n := 6) (Nat.le_of_ble_eq_true rfl) (Nat.le_of_ble_eq_true rfl) ?_
    refine lv_astore (lv' := [(4, .ref q9), (0, .ref x0), (1, .int x_), (2, .int y_), (3, .ref o0)]) hx hb dL_stands_13 hl (by decide) rfl (fun ls hl => ?_)
    refine lv_iconst (v := 1) hx hb dL_stands_15 (by decide) ?_
    exact he_ri hQ hx hb hr hlk hP hD hS dL_stands_16 (Nat.le_of_ble_eq_true rfl) (Nat.le_of_ble_eq_true rfl) ([(x0, .inr (9, fx_q_5)), (m0, .inr (10, fm_q_5)), (aL g o0 1 fo)] ++ (Rc_q_5 ++ Rm_q_5)) rfl ⟨fo, ⟨_, _, _, _, rfl, hc, hm⟩, hcd.symm, fun h9 => absurd (hcd.symm.trans h9) (by decide)⟩
set_option maxHeartbeats 8000000 in
set_option maxRecDepth 100000 in
theorem w_show (l : Launch) (hlt : l.stackTraces = false) (g : he_G) (x0 m0 o0 : Nat) (Sx Sm : AbS) (t : Int32) (fo : Nat → Int64) (W : va_W) (x_ : Int32) (y_ : Int32) (hOk : okS Sx) (hI : IL g x0 m0 o0 Sx Sm t fo W) : he_I l yL_show wsL_show 8 129 1 6 g [.ref x0, .int x_, .int y_, .ref o0] W (fun (r : Int32) (W2 : va_W) => ∃ fo2 : Nat → Int64, IL g x0 m0 o0 (sp_show Sx x_ y_).2.2 Sm t fo2 W2 ∧ r = (sp_show Sx x_ y_).1 ∧ ((sp_show Sx x_ y_).1 = 0 → fo2 0 = Int32.toInt64 (sp_show Sx x_ y_).2.1)) (fun W2 => W2) := by
  obtain ⟨fx, fm, Rc, Rm, rfl, hc, hm⟩ := hI
  refine he_beginH (l := l) (g := g) (y := yL_show) (wl := wsL_show) (fr := 8) (lo := 129) (mc := 1) (ms := 6) (av := [.ref x0, .int x_, .int y_, .ref o0]) (ws := [(x0, .inr (9, fx)), (m0, .inr (10, fm)), (aL g o0 1 fo)] ++ (Rc ++ Rm)) (cc := cL_show) (maxL := 5) (ret := (some .int)) (hh := [(0, 10, 13, 13)]) (fun A => va_Qi (fun (r : Int32) (W2 : va_W) => ∃ fo2 : Nat → Int64, IL g x0 m0 o0 (sp_show Sx x_ y_).2.2 Sm t fo2 W2 ∧ r = (sp_show Sx x_ y_).1 ∧ ((sp_show Sx x_ y_).1 = 0 → fo2 0 = Int32.toInt64 (sp_show Sx x_ y_).2.1)) (fun u t => he_post g A ((fun (W2 : va_W) => W2) u) t) A) (by decide) rfl (Nat.le_of_ble_eq_true rfl) ?_
  intro p e s m args below meth c A ls H locs Q hQ htab hB
  obtain ⟨hx, hb, hr, hml, hown, hts, hlk, hin, hP, hK, hD, hS, hA, hE, hl⟩ := hB
  have hl : lv_has ls 5 [(0, .ref x0), (1, .int x_), (2, .int y_), (3, .ref o0)] := hl
  have cl13 := hts (.classLink RL 13 "java/lang/IllegalArgumentException") (by decide +kernel)
  refine lv_aload_n hx hb dL_show_0 rfl (lv_at hl 3 rfl) ?_
  refine lv_iconst (v := 0) hx hb dL_show_1 (by decide) ?_
  refine lv_aload_n hx hb dL_show_2 rfl (lv_at hl 0 rfl) ?_
  refine lv_iload_n hx hb dL_show_3 rfl (lv_at hl 1 rfl) ?_
  refine lv_iload_n hx hb dL_show_4 rfl (lv_at hl 2 rfl) ?_
  rcases k_show l hlt g x0 Sx _ x_ y_ hOk hc with ⟨hcd, h9⟩ | ⟨hcd, W9, hI9, h9⟩
  · refine he_ci (wc := ([(x0, .inr (9, fx)), (m0, .inr (10, fm)), (aL g o0 1 fo)] ++ (Rc ++ Rm))) (wr := []) (va_runV (As := [.int x_, .int y_]) (rest := [.int 0, .ref o0]) ⟨hx, hb, hml, hown, hts⟩ (il_cI h9 hm H.size) (cwV 2 hts gL_show_X10_show rfl rfl rfl (by decide +kernel) ⟨Nat.le_of_ble_eq_true rfl, Nat.le_of_ble_eq_true rfl⟩) (he_preV (wc := ([(x0, .inr (9, fx)), (m0, .inr (10, fm)), (aL g o0 1 fo)] ++ (Rc ++ Rm))) hK hP hD hS hA hE (List.range (([(x0, .inr (9, fx)), (m0, .inr (10, fm)), (aL g o0 1 fo)] ++ (Rc ++ Rm)) : va_W).length) (he_all _) (he_allnd _) 0 rfl rfl) rfl rfl hl.1 rfl (lv_room (Nat.le_of_ble_eq_true rfl)) dL_show_5 ⟨(Nat.le_of_ble_eq_true rfl), (Nat.le_of_ble_eq_true rfl)⟩) hP hD hS hA (List.range (([(x0, .inr (9, fx)), (m0, .inr (10, fm)), (aL g o0 1 fo)] ++ (Rc ++ Rm)) : va_W).length) [] (he_all _) rfl rfl (fun _ h9 => absurd h9 List.not_mem_nil) (fun r_1 u_2 H locs hu_3 hP hD hS => ?_)
    obtain ⟨hI9, hp5⟩ := hu_3
    obtain ⟨fx_q_4, fm_q_4, Rc_q_4, Rm_q_4, rfl, hc, hm⟩ := hI9
    have hP : va_P g.1 vwCl ([(x0, .inr (9, fx_q_4)), (m0, .inr (10, fm_q_4)), (aL g o0 1 fo)] ++ (Rc_q_4 ++ Rm_q_4)) H := hP
    have hD : va_D A ([(x0, .inr (9, fx_q_4)), (m0, .inr (10, fm_q_4)), (aL g o0 1 fo)] ++ (Rc_q_4 ++ Rm_q_4)) := hD
    refine lv_i2l (v := Int32.toInt64 r_1) hx hb dL_show_8 rfl ?_
    refine he_last hx hb hK hP hD hS 2 rfl 0 (by decide) (by decide) (by decide) dL_show_9 (fun H locs hP hD hS => ?_)
    have hP : va_P g.1 vwCl ([(x0, .inr (9, fx_q_4)), (m0, .inr (10, fm_q_4)), (aL g o0 1 (vp_updL fo 0 (Int32.toInt64 r_1)))] ++ (Rc_q_4 ++ Rm_q_4)) H := hP
    have hD : va_D A ([(x0, .inr (9, fx_q_4)), (m0, .inr (10, fm_q_4)), (aL g o0 1 (vp_updL fo 0 (Int32.toInt64 r_1)))] ++ (Rc_q_4 ++ Rm_q_4)) := hD
    refine lv_goto (tgt := 17) hx hb dL_show_10 (by decide) ?_
    refine lv_iconst (v := 0) hx hb dL_show_17 (by decide) ?_
    exact he_ri hQ hx hb hr hlk hP hD hS dL_show_18 (Nat.le_of_ble_eq_true rfl) (Nat.le_of_ble_eq_true rfl) ([(x0, .inr (9, fx_q_4)), (m0, .inr (10, fm_q_4)), (aL g o0 1 (vp_updL fo 0 (Int32.toInt64 r_1)))] ++ (Rc_q_4 ++ Rm_q_4)) rfl ⟨(vp_updL fo 0 (Int32.toInt64 r_1)), ⟨_, _, _, _, rfl, hc, hm⟩, hcd.symm, fun _ => (by rw [show (vp_updL fo 0 (Int32.toInt64 r_1)) 0 = _ from vp_updL_s _ _ _]; exact (congrArg Int32.toInt64 hp5))⟩
  · obtain ⟨W8, hI8, h8⟩ := il_Ti (o0 := o0) (fo := fo) h9 hI9 hm
    refine he_xi (En := "java/lang/IllegalArgumentException") (wx := W8) (wc := ([(x0, .inr (9, fx)), (m0, .inr (10, fm)), (aL g o0 1 fo)] ++ (Rc ++ Rm))) (wr := []) (vx_runV (As := [.int x_, .int y_]) (rest := [.int 0, .ref o0]) ⟨hx, hb, hml, hown, hts⟩ (h8 H.size) (cwV 2 hts gL_show_X10_show rfl rfl rfl (by decide +kernel) ⟨Nat.le_of_ble_eq_true rfl, Nat.le_of_ble_eq_true rfl⟩) (he_preV (wc := ([(x0, .inr (9, fx)), (m0, .inr (10, fm)), (aL g o0 1 fo)] ++ (Rc ++ Rm))) hK hP hD hS hA hE (List.range (([(x0, .inr (9, fx)), (m0, .inr (10, fm)), (aL g o0 1 fo)] ++ (Rc ++ Rm)) : va_W).length) (he_all _) (he_allnd _) 0 rfl rfl) rfl rfl hl.1 rfl (lv_room (Nat.le_of_ble_eq_true rfl)) dL_show_5 ⟨(Nat.le_of_ble_eq_true rfl), (Nat.le_of_ble_eq_true rfl)⟩) hP hD hS hA (List.range (([(x0, .inr (9, fx)), (m0, .inr (10, fm)), (aL g o0 1 fo)] ++ (Rc ++ Rm)) : va_W).length) [] (he_all _) rfl rfl (fun _ h9 => absurd h9 List.not_mem_nil) (fun ce q9 H locs hP hD hS hce hcv hcl => ?_)
    obtain ⟨fx_q_5, fm_q_5, Rc_q_5, Rm_q_5, rfl, hc, hm⟩ := hI8
    have hP : va_P g.1 vwCl ([(x0, .inr (9, fx_q_5)), (m0, .inr (10, fm_q_5)), (aL g o0 1 fo)] ++ (Rc_q_5 ++ Rm_q_5)) H := hP
    have hD : va_D A ([(x0, .inr (9, fx_q_5)), (m0, .inr (10, fm_q_5)), (aL g o0 1 fo)] ++ (Rc_q_5 ++ Rm_q_5)) := hD
    refine vx_catch (name := "java/lang/IllegalArgumentException") (E := "java/lang/IllegalArgumentException") hown [] ⟨0, 10, 13, 13⟩ [] htab (fun z h9 => nomatch h9) (by decide) (by decide) cl13 (va_Nw.use rfl (hE.cast ("java/lang/IllegalArgumentException", "java/lang/IllegalArgumentException") (by decide))) hce hcv hcl ?_
    refine W.widen (k := 1) (n := 6) (Nat.le_of_ble_eq_true rfl) (Nat.le_of_ble_eq_true rfl) ?_
    refine lv_astore (lv' := [(4, .ref q9), (0, .ref x0), (1, .int x_), (2, .int y_), (3, .ref o0)]) hx hb dL_show_13 hl (by decide) rfl (fun ls hl => ?_)
    refine lv_iconst (v := 1) hx hb dL_show_15 (by decide) ?_
    exact he_ri hQ hx hb hr hlk hP hD hS dL_show_16 (Nat.le_of_ble_eq_true rfl) (Nat.le_of_ble_eq_true rfl) ([(x0, .inr (9, fx_q_5)), (m0, .inr (10, fm_q_5)), (aL g o0 1 fo)] ++ (Rc_q_5 ++ Rm_q_5)) rfl ⟨fo, ⟨_, _, _, _, rfl, hc, hm⟩, hcd.symm, fun h9 => absurd (hcd.symm.trans h9) (by decide)⟩
set_option maxHeartbeats 8000000 in
set_option maxRecDepth 100000 in
theorem w_offers (l : Launch) (hlt : l.stackTraces = false) (g : he_G) (x0 m0 o0 : Nat) (Sx Sm : AbS) (t : Int32) (fo : Nat → Int64) (W : va_W) (x_ : Int32) (y_ : Int32) (z_ : Int32) (hI : IL g x0 m0 o0 Sx Sm t fo W) : he_I l yL_offers wsL_offers 8 126 1 6 g [.ref x0, .int x_, .int y_, .int z_, .ref o0] W (fun (r : Int32) (W2 : va_W) => ∃ fo2 : Nat → Int64, IL g x0 m0 o0 (sp_offers Sx x_ y_ z_).2.2 Sm t fo2 W2 ∧ r = (sp_offers Sx x_ y_ z_).1 ∧ ((sp_offers Sx x_ y_ z_).1 = 0 → fo2 0 = Int32.toInt64 (sp_offers Sx x_ y_ z_).2.1)) (fun W2 => W2) := by
  obtain ⟨fx, fm, Rc, Rm, rfl, hc, hm⟩ := hI
  refine he_beginH (l := l) (g := g) (y := yL_offers) (wl := wsL_offers) (fr := 8) (lo := 126) (mc := 1) (ms := 6) (av := [.ref x0, .int x_, .int y_, .int z_, .ref o0]) (ws := [(x0, .inr (9, fx)), (m0, .inr (10, fm)), (aL g o0 1 fo)] ++ (Rc ++ Rm)) (cc := cL_offers) (maxL := 6) (ret := (some .int)) (hh := [(0, 12, 15, 13)]) (fun A => va_Qi (fun (r : Int32) (W2 : va_W) => ∃ fo2 : Nat → Int64, IL g x0 m0 o0 (sp_offers Sx x_ y_ z_).2.2 Sm t fo2 W2 ∧ r = (sp_offers Sx x_ y_ z_).1 ∧ ((sp_offers Sx x_ y_ z_).1 = 0 → fo2 0 = Int32.toInt64 (sp_offers Sx x_ y_ z_).2.1)) (fun u t => he_post g A ((fun (W2 : va_W) => W2) u) t) A) (by decide) rfl (Nat.le_of_ble_eq_true rfl) ?_
  intro p e s m args below meth c A ls H locs Q hQ htab hB
  obtain ⟨hx, hb, hr, hml, hown, hts, hlk, hin, hP, hK, hD, hS, hA, hE, hl⟩ := hB
  have hl : lv_has ls 6 [(0, .ref x0), (1, .int x_), (2, .int y_), (3, .int z_), (4, .ref o0)] := hl
  have cl13 := hts (.classLink RL 13 "java/lang/IllegalArgumentException") (by decide +kernel)
  refine lv_aload hx hb dL_offers_0 (lv_at hl 4 rfl) ?_
  refine lv_iconst (v := 0) hx hb dL_offers_2 (by decide) ?_
  refine lv_aload_n hx hb dL_offers_3 rfl (lv_at hl 0 rfl) ?_
  refine lv_iload_n hx hb dL_offers_4 rfl (lv_at hl 1 rfl) ?_
  refine lv_iload_n hx hb dL_offers_5 rfl (lv_at hl 2 rfl) ?_
  refine lv_iload_n hx hb dL_offers_6 rfl (lv_at hl 3 rfl) ?_
  rcases k_offers l hlt g x0 Sx _ x_ y_ z_ hc with ⟨hcd, h9⟩ | ⟨hcd, W9, hI9, h9⟩
  · refine he_ci (wc := ([(x0, .inr (9, fx)), (m0, .inr (10, fm)), (aL g o0 1 fo)] ++ (Rc ++ Rm))) (wr := []) (va_runV (As := [.int x_, .int y_, .int z_]) (rest := [.int 0, .ref o0]) ⟨hx, hb, hml, hown, hts⟩ (il_cI h9 hm H.size) (cwV 3 hts gL_offers_X10_offers rfl rfl rfl (by decide +kernel) ⟨Nat.le_of_ble_eq_true rfl, Nat.le_of_ble_eq_true rfl⟩) (he_preV (wc := ([(x0, .inr (9, fx)), (m0, .inr (10, fm)), (aL g o0 1 fo)] ++ (Rc ++ Rm))) hK hP hD hS hA hE (List.range (([(x0, .inr (9, fx)), (m0, .inr (10, fm)), (aL g o0 1 fo)] ++ (Rc ++ Rm)) : va_W).length) (he_all _) (he_allnd _) 0 rfl rfl) rfl rfl hl.1 rfl (lv_room (Nat.le_of_ble_eq_true rfl)) dL_offers_7 ⟨(Nat.le_of_ble_eq_true rfl), (Nat.le_of_ble_eq_true rfl)⟩) hP hD hS hA (List.range (([(x0, .inr (9, fx)), (m0, .inr (10, fm)), (aL g o0 1 fo)] ++ (Rc ++ Rm)) : va_W).length) [] (he_all _) rfl rfl (fun _ h9 => absurd h9 List.not_mem_nil) (fun r_1 u_2 H locs hu_3 hP hD hS => ?_)
    obtain ⟨hI9, hp7⟩ := hu_3
    obtain ⟨fx_q_4, fm_q_4, Rc_q_4, Rm_q_4, rfl, hc, hm⟩ := hI9
    have hP : va_P g.1 vwCl ([(x0, .inr (9, fx_q_4)), (m0, .inr (10, fm_q_4)), (aL g o0 1 fo)] ++ (Rc_q_4 ++ Rm_q_4)) H := hP
    have hD : va_D A ([(x0, .inr (9, fx_q_4)), (m0, .inr (10, fm_q_4)), (aL g o0 1 fo)] ++ (Rc_q_4 ++ Rm_q_4)) := hD
    refine lv_i2l (v := Int32.toInt64 r_1) hx hb dL_offers_10 rfl ?_
    refine he_last hx hb hK hP hD hS 2 rfl 0 (by decide) (by decide) (by decide) dL_offers_11 (fun H locs hP hD hS => ?_)
    have hP : va_P g.1 vwCl ([(x0, .inr (9, fx_q_4)), (m0, .inr (10, fm_q_4)), (aL g o0 1 (vp_updL fo 0 (Int32.toInt64 r_1)))] ++ (Rc_q_4 ++ Rm_q_4)) H := hP
    have hD : va_D A ([(x0, .inr (9, fx_q_4)), (m0, .inr (10, fm_q_4)), (aL g o0 1 (vp_updL fo 0 (Int32.toInt64 r_1)))] ++ (Rc_q_4 ++ Rm_q_4)) := hD
    refine lv_goto (tgt := 19) hx hb dL_offers_12 (by decide) ?_
    refine lv_iconst (v := 0) hx hb dL_offers_19 (by decide) ?_
    exact he_ri hQ hx hb hr hlk hP hD hS dL_offers_20 (Nat.le_of_ble_eq_true rfl) (Nat.le_of_ble_eq_true rfl) ([(x0, .inr (9, fx_q_4)), (m0, .inr (10, fm_q_4)), (aL g o0 1 (vp_updL fo 0 (Int32.toInt64 r_1)))] ++ (Rc_q_4 ++ Rm_q_4)) rfl ⟨(vp_updL fo 0 (Int32.toInt64 r_1)), ⟨_, _, _, _, rfl, hc, hm⟩, hcd.symm, fun _ => (by rw [show (vp_updL fo 0 (Int32.toInt64 r_1)) 0 = _ from vp_updL_s _ _ _]; exact (congrArg Int32.toInt64 hp7))⟩
  · obtain ⟨W8, hI8, h8⟩ := il_Ti (o0 := o0) (fo := fo) h9 hI9 hm
    refine he_xi (En := "java/lang/IllegalArgumentException") (wx := W8) (wc := ([(x0, .inr (9, fx)), (m0, .inr (10, fm)), (aL g o0 1 fo)] ++ (Rc ++ Rm))) (wr := []) (vx_runV (As := [.int x_, .int y_, .int z_]) (rest := [.int 0, .ref o0]) ⟨hx, hb, hml, hown, hts⟩ (h8 H.size) (cwV 3 hts gL_offers_X10_offers rfl rfl rfl (by decide +kernel) ⟨Nat.le_of_ble_eq_true rfl, Nat.le_of_ble_eq_true rfl⟩) (he_preV (wc := ([(x0, .inr (9, fx)), (m0, .inr (10, fm)), (aL g o0 1 fo)] ++ (Rc ++ Rm))) hK hP hD hS hA hE (List.range (([(x0, .inr (9, fx)), (m0, .inr (10, fm)), (aL g o0 1 fo)] ++ (Rc ++ Rm)) : va_W).length) (he_all _) (he_allnd _) 0 rfl rfl) rfl rfl hl.1 rfl (lv_room (Nat.le_of_ble_eq_true rfl)) dL_offers_7 ⟨(Nat.le_of_ble_eq_true rfl), (Nat.le_of_ble_eq_true rfl)⟩) hP hD hS hA (List.range (([(x0, .inr (9, fx)), (m0, .inr (10, fm)), (aL g o0 1 fo)] ++ (Rc ++ Rm)) : va_W).length) [] (he_all _) rfl rfl (fun _ h9 => absurd h9 List.not_mem_nil) (fun ce q9 H locs hP hD hS hce hcv hcl => ?_)
    obtain ⟨fx_q_5, fm_q_5, Rc_q_5, Rm_q_5, rfl, hc, hm⟩ := hI8
    have hP : va_P g.1 vwCl ([(x0, .inr (9, fx_q_5)), (m0, .inr (10, fm_q_5)), (aL g o0 1 fo)] ++ (Rc_q_5 ++ Rm_q_5)) H := hP
    have hD : va_D A ([(x0, .inr (9, fx_q_5)), (m0, .inr (10, fm_q_5)), (aL g o0 1 fo)] ++ (Rc_q_5 ++ Rm_q_5)) := hD
    refine vx_catch (name := "java/lang/IllegalArgumentException") (E := "java/lang/IllegalArgumentException") hown [] ⟨0, 12, 15, 13⟩ [] htab (fun z h9 => nomatch h9) (by decide) (by decide) cl13 (va_Nw.use rfl (hE.cast ("java/lang/IllegalArgumentException", "java/lang/IllegalArgumentException") (by decide))) hce hcv hcl ?_
    refine W.widen (k := 1) (n := 6) (Nat.le_of_ble_eq_true rfl) (Nat.le_of_ble_eq_true rfl) ?_
    refine lv_astore (lv' := [(5, .ref q9), (0, .ref x0), (1, .int x_), (2, .int y_), (3, .int z_), (4, .ref o0)]) hx hb dL_offers_15 hl (by decide) rfl (fun ls hl => ?_)
    refine lv_iconst (v := 1) hx hb dL_offers_17 (by decide) ?_
    exact he_ri hQ hx hb hr hlk hP hD hS dL_offers_18 (Nat.le_of_ble_eq_true rfl) (Nat.le_of_ble_eq_true rfl) ([(x0, .inr (9, fx_q_5)), (m0, .inr (10, fm_q_5)), (aL g o0 1 fo)] ++ (Rc_q_5 ++ Rm_q_5)) rfl ⟨fo, ⟨_, _, _, _, rfl, hc, hm⟩, hcd.symm, fun h9 => absurd (hcd.symm.trans h9) (by decide)⟩
set_option maxHeartbeats 8000000 in
set_option maxRecDepth 100000 in
theorem w_serves (l : Launch) (hlt : l.stackTraces = false) (g : he_G) (x0 m0 o0 : Nat) (Sx Sm : AbS) (t : Int32) (fo : Nat → Int64) (W : va_W) (x_ : Int32) (hO : okO Sx.2.2.2.2) (hI : IL g x0 m0 o0 Sx Sm t fo W) : he_I l yL_serves wsL_serves 8 124 1 6 g [.ref x0, .int x_, .ref o0] W (fun (r : Int32) (W2 : va_W) => ∃ fo2 : Nat → Int64, IL g x0 m0 o0 (sp_serves Sx x_).2.2 Sm t fo2 W2 ∧ r = (sp_serves Sx x_).1 ∧ ((sp_serves Sx x_).1 = 0 → fo2 0 = Int32.toInt64 (sp_serves Sx x_).2.1)) (fun W2 => W2) := by
  obtain ⟨fx, fm, Rc, Rm, rfl, hc, hm⟩ := hI
  refine he_beginH (l := l) (g := g) (y := yL_serves) (wl := wsL_serves) (fr := 8) (lo := 124) (mc := 1) (ms := 6) (av := [.ref x0, .int x_, .ref o0]) (ws := [(x0, .inr (9, fx)), (m0, .inr (10, fm)), (aL g o0 1 fo)] ++ (Rc ++ Rm)) (cc := cL_serves) (maxL := 4) (ret := (some .int)) (hh := [(0, 9, 12, 13)]) (fun A => va_Qi (fun (r : Int32) (W2 : va_W) => ∃ fo2 : Nat → Int64, IL g x0 m0 o0 (sp_serves Sx x_).2.2 Sm t fo2 W2 ∧ r = (sp_serves Sx x_).1 ∧ ((sp_serves Sx x_).1 = 0 → fo2 0 = Int32.toInt64 (sp_serves Sx x_).2.1)) (fun u t => he_post g A ((fun (W2 : va_W) => W2) u) t) A) (by decide) rfl (Nat.le_of_ble_eq_true rfl) ?_
  intro p e s m args below meth c A ls H locs Q hQ htab hB
  obtain ⟨hx, hb, hr, hml, hown, hts, hlk, hin, hP, hK, hD, hS, hA, hE, hl⟩ := hB
  have hl : lv_has ls 4 [(0, .ref x0), (1, .int x_), (2, .ref o0)] := hl
  have cl13 := hts (.classLink RL 13 "java/lang/IllegalArgumentException") (by decide +kernel)
  refine lv_aload_n hx hb dL_serves_0 rfl (lv_at hl 2 rfl) ?_
  refine lv_iconst (v := 0) hx hb dL_serves_1 (by decide) ?_
  refine lv_aload_n hx hb dL_serves_2 rfl (lv_at hl 0 rfl) ?_
  refine lv_iload_n hx hb dL_serves_3 rfl (lv_at hl 1 rfl) ?_
  rcases k_serves l hlt g x0 Sx _ x_ hO hc with ⟨hcd, h9⟩ | ⟨hcd, W9, hI9, h9⟩
  · refine he_ci (wc := ([(x0, .inr (9, fx)), (m0, .inr (10, fm)), (aL g o0 1 fo)] ++ (Rc ++ Rm))) (wr := []) (va_runV (As := [.int x_]) (rest := [.int 0, .ref o0]) ⟨hx, hb, hml, hown, hts⟩ (il_cI h9 hm H.size) (cwV 1 hts gL_serves_X10_serves rfl rfl rfl (by decide +kernel) ⟨Nat.le_of_ble_eq_true rfl, Nat.le_of_ble_eq_true rfl⟩) (he_preV (wc := ([(x0, .inr (9, fx)), (m0, .inr (10, fm)), (aL g o0 1 fo)] ++ (Rc ++ Rm))) hK hP hD hS hA hE (List.range (([(x0, .inr (9, fx)), (m0, .inr (10, fm)), (aL g o0 1 fo)] ++ (Rc ++ Rm)) : va_W).length) (he_all _) (he_allnd _) 0 rfl rfl) rfl rfl hl.1 rfl (lv_room (Nat.le_of_ble_eq_true rfl)) dL_serves_4 ⟨(Nat.le_of_ble_eq_true rfl), (Nat.le_of_ble_eq_true rfl)⟩) hP hD hS hA (List.range (([(x0, .inr (9, fx)), (m0, .inr (10, fm)), (aL g o0 1 fo)] ++ (Rc ++ Rm)) : va_W).length) [] (he_all _) rfl rfl (fun _ h9 => absurd h9 List.not_mem_nil) (fun r_1 u_2 H locs hu_3 hP hD hS => ?_)
    obtain ⟨hI9, hp4⟩ := hu_3
    obtain ⟨fx_q_4, fm_q_4, Rc_q_4, Rm_q_4, rfl, hc, hm⟩ := hI9
    have hP : va_P g.1 vwCl ([(x0, .inr (9, fx_q_4)), (m0, .inr (10, fm_q_4)), (aL g o0 1 fo)] ++ (Rc_q_4 ++ Rm_q_4)) H := hP
    have hD : va_D A ([(x0, .inr (9, fx_q_4)), (m0, .inr (10, fm_q_4)), (aL g o0 1 fo)] ++ (Rc_q_4 ++ Rm_q_4)) := hD
    refine lv_i2l (v := Int32.toInt64 r_1) hx hb dL_serves_7 rfl ?_
    refine he_last hx hb hK hP hD hS 2 rfl 0 (by decide) (by decide) (by decide) dL_serves_8 (fun H locs hP hD hS => ?_)
    have hP : va_P g.1 vwCl ([(x0, .inr (9, fx_q_4)), (m0, .inr (10, fm_q_4)), (aL g o0 1 (vp_updL fo 0 (Int32.toInt64 r_1)))] ++ (Rc_q_4 ++ Rm_q_4)) H := hP
    have hD : va_D A ([(x0, .inr (9, fx_q_4)), (m0, .inr (10, fm_q_4)), (aL g o0 1 (vp_updL fo 0 (Int32.toInt64 r_1)))] ++ (Rc_q_4 ++ Rm_q_4)) := hD
    refine lv_goto (tgt := 15) hx hb dL_serves_9 (by decide) ?_
    refine lv_iconst (v := 0) hx hb dL_serves_15 (by decide) ?_
    exact he_ri hQ hx hb hr hlk hP hD hS dL_serves_16 (Nat.le_of_ble_eq_true rfl) (Nat.le_of_ble_eq_true rfl) ([(x0, .inr (9, fx_q_4)), (m0, .inr (10, fm_q_4)), (aL g o0 1 (vp_updL fo 0 (Int32.toInt64 r_1)))] ++ (Rc_q_4 ++ Rm_q_4)) rfl ⟨(vp_updL fo 0 (Int32.toInt64 r_1)), ⟨_, _, _, _, rfl, hc, hm⟩, hcd.symm, fun _ => (by rw [show (vp_updL fo 0 (Int32.toInt64 r_1)) 0 = _ from vp_updL_s _ _ _]; exact (congrArg Int32.toInt64 hp4))⟩
  · obtain ⟨W8, hI8, h8⟩ := il_Ti (o0 := o0) (fo := fo) h9 hI9 hm
    refine he_xi (En := "java/lang/IllegalArgumentException") (wx := W8) (wc := ([(x0, .inr (9, fx)), (m0, .inr (10, fm)), (aL g o0 1 fo)] ++ (Rc ++ Rm))) (wr := []) (vx_runV (As := [.int x_]) (rest := [.int 0, .ref o0]) ⟨hx, hb, hml, hown, hts⟩ (h8 H.size) (cwV 1 hts gL_serves_X10_serves rfl rfl rfl (by decide +kernel) ⟨Nat.le_of_ble_eq_true rfl, Nat.le_of_ble_eq_true rfl⟩) (he_preV (wc := ([(x0, .inr (9, fx)), (m0, .inr (10, fm)), (aL g o0 1 fo)] ++ (Rc ++ Rm))) hK hP hD hS hA hE (List.range (([(x0, .inr (9, fx)), (m0, .inr (10, fm)), (aL g o0 1 fo)] ++ (Rc ++ Rm)) : va_W).length) (he_all _) (he_allnd _) 0 rfl rfl) rfl rfl hl.1 rfl (lv_room (Nat.le_of_ble_eq_true rfl)) dL_serves_4 ⟨(Nat.le_of_ble_eq_true rfl), (Nat.le_of_ble_eq_true rfl)⟩) hP hD hS hA (List.range (([(x0, .inr (9, fx)), (m0, .inr (10, fm)), (aL g o0 1 fo)] ++ (Rc ++ Rm)) : va_W).length) [] (he_all _) rfl rfl (fun _ h9 => absurd h9 List.not_mem_nil) (fun ce q9 H locs hP hD hS hce hcv hcl => ?_)
    obtain ⟨fx_q_5, fm_q_5, Rc_q_5, Rm_q_5, rfl, hc, hm⟩ := hI8
    have hP : va_P g.1 vwCl ([(x0, .inr (9, fx_q_5)), (m0, .inr (10, fm_q_5)), (aL g o0 1 fo)] ++ (Rc_q_5 ++ Rm_q_5)) H := hP
    have hD : va_D A ([(x0, .inr (9, fx_q_5)), (m0, .inr (10, fm_q_5)), (aL g o0 1 fo)] ++ (Rc_q_5 ++ Rm_q_5)) := hD
    refine vx_catch (name := "java/lang/IllegalArgumentException") (E := "java/lang/IllegalArgumentException") hown [] ⟨0, 9, 12, 13⟩ [] htab (fun z h9 => nomatch h9) (by decide) (by decide) cl13 (va_Nw.use rfl (hE.cast ("java/lang/IllegalArgumentException", "java/lang/IllegalArgumentException") (by decide))) hce hcv hcl ?_
    refine W.widen (k := 1) (n := 6) (Nat.le_of_ble_eq_true rfl) (Nat.le_of_ble_eq_true rfl) ?_
    refine lv_astore_n (lv' := [(3, .ref q9), (0, .ref x0), (1, .int x_), (2, .ref o0)]) hx hb dL_serves_12 rfl hl (by decide) rfl (fun ls hl => ?_)
    refine lv_iconst (v := 1) hx hb dL_serves_13 (by decide) ?_
    exact he_ri hQ hx hb hr hlk hP hD hS dL_serves_14 (Nat.le_of_ble_eq_true rfl) (Nat.le_of_ble_eq_true rfl) ([(x0, .inr (9, fx_q_5)), (m0, .inr (10, fm_q_5)), (aL g o0 1 fo)] ++ (Rc_q_5 ++ Rm_q_5)) rfl ⟨fo, ⟨_, _, _, _, rfl, hc, hm⟩, hcd.symm, fun h9 => absurd (hcd.symm.trans h9) (by decide)⟩
end
section
/-! THE CLAIM OUT OF ONE WALK OF THE LAW'S BODY. Your part is whole_start (and what it stands on); all else here is the same for every law, but numbers. -/
def R_law : String := "HiredEnemyLaw"
def lw_P (b : Addr) (xs : List Int32) (args : Array Value) (s : State) : Prop := args = #[.ref b] ∧ s.IntsAt b xs ∧ xs.length ≤ 3072 ∧ (Jvm.Cond.and given_1 narrow_1).before args s = true
def lw_Q (_ : Array Value) (s : State) (o : Outcome) (t : State) : Prop := o = .returned (some (.int 1)) ∧ Framed s o t [] 601024 7293034
def lw_Z (below : List Frame) (a : Array Value) (s : State) : State → Prop := fun t => ∃ o, t.status = .running ∧ Ended t below o ∧ lw_Q a s o t
/-- the law's own end, with 1 on the stack, nothing written that was there before, its room as the claim has it -/
theorem lw_ret {p : Program} {l : Launch} {e : Env} {s : State} {m : MethodId} {below : List Frame} {meth : Method} {c : Code} {b : Nat} (hx : p.tables.exec = Jvm.exec) (hb : c.code = code) (hr : meth.sig.returnType = ret) (hlocks : meth.locks = false) {pc : Nat} {H : Heap} {ls : Array Slot} (hdg : decode code pc = .ok (.ireturn, 1)) : W p l e room_1 s m #[Value.ref b] below meth c H [] 601024 7293034 (lw_Z below #[Value.ref b] s) (F0 m pc ls [.int 1]) := by
  intro T hT X
  obtain ⟨fs, hret, hrun, hended, hW, hframe⟩ := X.leave (v := some (.int 1)) (hlocks := hlocks) (fun h => by rw [hr] at h; cases h)
  have hmeth' : T.vm.method? m = some meth := X.method'
  refine ⟨T.setFrames fs, ?_, .returned (some (.int 1)), hrun, hended, rfl, ⟨_, rfl⟩, hW, hframe⟩
  jvm_step X.here [X.here.top, hx, hb, hdg, hmeth', hr, ret, narrow_b1]
  (try refine ⟨rfl, ?_⟩); (try refine ⟨rfl, ?_⟩)
  first | (intro acts; rw [hret _ acts rfl rfl rfl]) | rw [hret _ _ rfl rfl rfl]
  exact Steps.refl _
/-- what the law may write: what is new -/
def lw_A (s : State) : Nat → Prop := fun q => s.heap.size ≤ q
/-- what holds all through the law's body -/
def lw_C (p : Program) (s : State) (m : MethodId) (meth : Method) (c : Code) (b Ln : Nat) (xs : Nat → Int32) (g : he_G) : Prop :=
  p.tables.exec = Jvm.exec ∧ c.code = code ∧ meth.sig.returnType = ret ∧ c.maxLocals = 8 ∧ s.vm.findClass RL = some m.cls ∧ (∀ w ∈ wsL_law, w.before #[Value.ref b] s = true) ∧ va_X b Ln xs s s.heap ∧ b < s.heap.size ∧ meth.locks = false ∧ va_K g.1 vwCl (he_ty g) s ∧ he_E g (lw_A s) s s.heap ∧ (∀ q, s.heap.size ≤ q → lw_A s q) ∧ ¬ lw_A s b ∧ he_nc2 s
/-! the law's cases -/
theorem sp0_count (S : AbS) (v0 : Int32) : (sp_count S v0).1 = 0 := by unfold sp_count; (repeat' split) <;> rfl
end
section
set_option maxHeartbeats 8000000 in
set_option maxRecDepth 100000 in
theorem lc_feed {p : Program} {e : Env} {s : State} {m : MethodId} {below : List Frame} {meth : Method} {c : Code} {Q : State → Prop} (l : Launch) (hlt : l.stackTraces = false) (g : he_G) {b Ln : Nat} {xs : Nat → Int32} (C0 : lw_C p s m meth c b Ln xs g) (i : Nat) (hi : i + 6 ≤ Ln) (hL : Ln ≤ 3072) (x0 m0 o0 : Nat) (S : AbS) (t : Int32) (fo : Nat → Int64) (W9 : va_W) (hOk : okS S) (hI : IL g x0 m0 o0 S S t fo W9) {H : Heap} {locs : List Loc} {ls : Array Slot} (hP : va_P g.1 vwCl W9 H) (hD : va_D (lw_A s) W9) (hS : va_S (lw_A s) s.heap H locs) (hl : lv_has ls 8 [(0, .ref b), (1, .ref x0), (2, .ref m0), (3, .ref o0), (4, .int (nI i))]) (kk : ∀ (S2 : AbS) (t2 : Int32) (fo2 : Nat → Int64) (W2 : va_W) (H2 : Heap) (locs2 : List Loc) (ls2 : Array Slot), okS S2 → IL g x0 m0 o0 S2 S2 t2 fo2 W2 → va_P g.1 vwCl W2 H2 → va_D (lw_A s) W2 → va_S (lw_A s) s.heap H2 locs2 → lv_has ls2 8 [(0, .ref b), (1, .ref x0), (2, .ref m0), (3, .ref o0), (4, .int (nI i))] → W p l e room_1 s m #[Value.ref b] below meth c H2 locs2 (1000 + 4 * (i + 6)) (100000 + 700 * (i + 6)) Q (F0 m 1341 ls2 [])) : W p l e room_1 s m #[Value.ref b] below meth c H locs (1000 + 4 * i) (100000 + 700 * i) Q (F0 m 188 ls []) := by
  obtain ⟨hx, hb, hr, hml, hown, hts, hX, hbl, hlk, hK, hE, hA, hbA, hNc⟩ := C0
  obtain ⟨fx, fm, Rc, Rm, rfl, hc, hm⟩ := hI
  refine lv_aload_n hx hb dL_law_188 rfl (lv_at hl 1 rfl) ?_
  refine lv_aload_n hx hb dL_law_189 rfl (lv_at hl 0 rfl) ?_
  refine lv_iload hx hb dL_law_190 (lv_at hl 4 rfl) ?_
  refine lv_iconst (v := 1) hx hb dL_law_192 (by decide) ?_
  refine lv_iadd hx hb dL_law_193 ?_
  refine he_top (nI (i + 1)) (nI_add i 1) ?_
  refine he_sld hx hb hX hbl hbA hS (i + 1) rfl (by omega) (by omega) (xs (i + 1)) rfl dL_law_194 ?_
  refine lv_aload_n hx hb dL_law_195 rfl (lv_at hl 0 rfl) ?_
  refine lv_iload hx hb dL_law_196 (lv_at hl 4 rfl) ?_
  refine lv_iconst (v := 2) hx hb dL_law_198 (by decide) ?_
  refine lv_iadd hx hb dL_law_199 ?_
  refine he_top (nI (i + 2)) (nI_add i 2) ?_
  refine he_sld hx hb hX hbl hbA hS (i + 2) rfl (by omega) (by omega) (xs (i + 2)) rfl dL_law_200 ?_
  refine lv_aload_n hx hb dL_law_201 rfl (lv_at hl 0 rfl) ?_
  refine lv_iload hx hb dL_law_202 (lv_at hl 4 rfl) ?_
  refine lv_iconst (v := 3) hx hb dL_law_204 (by decide) ?_
  refine lv_iadd hx hb dL_law_205 ?_
  refine he_top (nI (i + 3)) (nI_add i 3) ?_
  refine he_sld hx hb hX hbl hbA hS (i + 3) rfl (by omega) (by omega) (xs (i + 3)) rfl dL_law_206 ?_
  refine lv_aload_n hx hb dL_law_207 rfl (lv_at hl 0 rfl) ?_
  refine lv_iload hx hb dL_law_208 (lv_at hl 4 rfl) ?_
  refine lv_iconst (v := 4) hx hb dL_law_210 (by decide) ?_
  refine lv_iadd hx hb dL_law_211 ?_
  refine he_top (nI (i + 4)) (nI_add i 4) ?_
  refine he_sld hx hb hX hbl hbA hS (i + 4) rfl (by omega) (by omega) (xs (i + 4)) rfl dL_law_212 ?_
  refine lv_aload_n hx hb dL_law_213 rfl (lv_at hl 0 rfl) ?_
  refine lv_iload hx hb dL_law_214 (lv_at hl 4 rfl) ?_
  refine lv_iconst (v := 5) hx hb dL_law_216 (by decide) ?_
  refine lv_iadd hx hb dL_law_217 ?_
  refine he_top (nI (i + 5)) (nI_add i 5) ?_
  refine he_sld hx hb hX hbl hbA hS (i + 5) rfl (by omega) (by omega) (xs (i + 5)) rfl dL_law_218 ?_
  refine he_ci (wc := ([(x0, .inr (9, fx)), (m0, .inr (10, fm)), (aL g o0 1 fo)] ++ (Rc ++ Rm))) (wr := []) (va_runV (As := [.int (xs (i + 1)), .int (xs (i + 2)), .int (xs (i + 3)), .int (xs (i + 4)), .int (xs (i + 5))]) (rest := []) ⟨hx, hb, hml, hown, hts⟩ (il_cI (k_feed l hlt g x0 S _ (xs (i + 1)) (xs (i + 2)) (xs (i + 3)) (xs (i + 4)) (xs (i + 5)) hc) hm H.size) (cwV 5 hts gL_law_X10_feed rfl rfl rfl (by decide +kernel) ⟨Nat.le_of_ble_eq_true rfl, Nat.le_of_ble_eq_true rfl⟩) (he_preV (wc := ([(x0, .inr (9, fx)), (m0, .inr (10, fm)), (aL g o0 1 fo)] ++ (Rc ++ Rm))) hK hP hD hS hA hE (List.range (([(x0, .inr (9, fx)), (m0, .inr (10, fm)), (aL g o0 1 fo)] ++ (Rc ++ Rm)) : va_W).length) (he_all _) (he_allnd _) 0 rfl rfl) rfl rfl hl.1 rfl (lv_room (Nat.le_of_ble_eq_true rfl)) dL_law_219 ⟨(by show 1000 + 4 * i + 0 ≤ 601024; omega), (by show 100000 + 700 * i + 0 ≤ 7293034; omega)⟩) hP hD hS hA (List.range (([(x0, .inr (9, fx)), (m0, .inr (10, fm)), (aL g o0 1 fo)] ++ (Rc ++ Rm)) : va_W).length) [] (he_all _) rfl rfl (fun _ h9 => absurd h9 List.not_mem_nil) (fun r_1 u_2 H locs hu_3 hP hD hS => ?_)
  obtain ⟨hI9, hp219⟩ := hu_3
  obtain ⟨fx_q_4, fm_q_4, Rc_q_4, Rm_q_4, rfl, hc, hm⟩ := hI9
  have hP : va_P g.1 vwCl ([(x0, .inr (9, fx_q_4)), (m0, .inr (10, fm_q_4)), (aL g o0 1 fo)] ++ (Rc_q_4 ++ Rm_q_4)) H := hP
  have hD : va_D (lw_A s) ([(x0, .inr (9, fx_q_4)), (m0, .inr (10, fm_q_4)), (aL g o0 1 fo)] ++ (Rc_q_4 ++ Rm_q_4)) := hD
  refine lv_pop hx hb dL_law_222 rfl ?_
  refine lv_aload_n hx hb dL_law_223 rfl (lv_at hl 2 rfl) ?_
  refine lv_aload_n hx hb dL_law_224 rfl (lv_at hl 0 rfl) ?_
  refine lv_iload hx hb dL_law_225 (lv_at hl 4 rfl) ?_
  refine lv_iconst (v := 1) hx hb dL_law_227 (by decide) ?_
  refine lv_iadd hx hb dL_law_228 ?_
  refine he_top (nI (i + 1)) (nI_add i 1) ?_
  refine he_sld hx hb hX hbl hbA hS (i + 1) rfl (by omega) (by omega) (xs (i + 1)) rfl dL_law_229 ?_
  refine lv_aload_n hx hb dL_law_230 rfl (lv_at hl 0 rfl) ?_
  refine lv_iload hx hb dL_law_231 (lv_at hl 4 rfl) ?_
  refine lv_iconst (v := 2) hx hb dL_law_233 (by decide) ?_
  refine lv_iadd hx hb dL_law_234 ?_
  refine he_top (nI (i + 2)) (nI_add i 2) ?_
  refine he_sld hx hb hX hbl hbA hS (i + 2) rfl (by omega) (by omega) (xs (i + 2)) rfl dL_law_235 ?_
  refine lv_aload_n hx hb dL_law_236 rfl (lv_at hl 0 rfl) ?_
  refine lv_iload hx hb dL_law_237 (lv_at hl 4 rfl) ?_
  refine lv_iconst (v := 3) hx hb dL_law_239 (by decide) ?_
  refine lv_iadd hx hb dL_law_240 ?_
  refine he_top (nI (i + 3)) (nI_add i 3) ?_
  refine he_sld hx hb hX hbl hbA hS (i + 3) rfl (by omega) (by omega) (xs (i + 3)) rfl dL_law_241 ?_
  refine lv_aload_n hx hb dL_law_242 rfl (lv_at hl 0 rfl) ?_
  refine lv_iload hx hb dL_law_243 (lv_at hl 4 rfl) ?_
  refine lv_iconst (v := 4) hx hb dL_law_245 (by decide) ?_
  refine lv_iadd hx hb dL_law_246 ?_
  refine he_top (nI (i + 4)) (nI_add i 4) ?_
  refine he_sld hx hb hX hbl hbA hS (i + 4) rfl (by omega) (by omega) (xs (i + 4)) rfl dL_law_247 ?_
  refine lv_aload_n hx hb dL_law_248 rfl (lv_at hl 0 rfl) ?_
  refine lv_iload hx hb dL_law_249 (lv_at hl 4 rfl) ?_
  refine lv_iconst (v := 5) hx hb dL_law_251 (by decide) ?_
  refine lv_iadd hx hb dL_law_252 ?_
  refine he_top (nI (i + 5)) (nI_add i 5) ?_
  refine he_sld hx hb hX hbl hbA hS (i + 5) rfl (by omega) (by omega) (xs (i + 5)) rfl dL_law_253 ?_
  refine he_ci (wc := ([(x0, .inr (9, fx_q_4)), (m0, .inr (10, fm_q_4)), (aL g o0 1 fo)] ++ (Rc_q_4 ++ Rm_q_4))) (wr := []) (va_runV (As := [.int (xs (i + 1)), .int (xs (i + 2)), .int (xs (i + 3)), .int (xs (i + 4)), .int (xs (i + 5))]) (rest := []) ⟨hx, hb, hml, hown, hts⟩ (il_mI (j_feed l g m0 S t _ (xs (i + 1)) (xs (i + 2)) (xs (i + 3)) (xs (i + 4)) (xs (i + 5)) hm) hc H.size) (cwV 5 hts gL_law_X11_feed rfl rfl rfl (by decide +kernel) ⟨Nat.le_of_ble_eq_true rfl, Nat.le_of_ble_eq_true rfl⟩) (he_preV (wc := ([(x0, .inr (9, fx_q_4)), (m0, .inr (10, fm_q_4)), (aL g o0 1 fo)] ++ (Rc_q_4 ++ Rm_q_4))) hK hP hD hS hA hE (List.range (([(x0, .inr (9, fx_q_4)), (m0, .inr (10, fm_q_4)), (aL g o0 1 fo)] ++ (Rc_q_4 ++ Rm_q_4)) : va_W).length) (he_all _) (he_allnd _) 1 rfl rfl) rfl rfl hl.1 rfl (lv_room (Nat.le_of_ble_eq_true rfl)) dL_law_254 ⟨(by show 1000 + 4 * i + 0 + 0 ≤ 601024; omega), (by show 100000 + 700 * i + 0 + 0 ≤ 7293034; omega)⟩) hP hD hS hA (List.range (([(x0, .inr (9, fx_q_4)), (m0, .inr (10, fm_q_4)), (aL g o0 1 fo)] ++ (Rc_q_4 ++ Rm_q_4)) : va_W).length) [] (he_all _) rfl rfl (fun _ h9 => absurd h9 List.not_mem_nil) (fun r_5 u_6 H locs hu_7 hP hD hS => ?_)
  obtain ⟨t_254, hI9, ht254, hm254⟩ := hu_7
  obtain ⟨fx_q_8, fm_q_8, Rc_q_8, Rm_q_8, rfl, hc, hm⟩ := hI9
  have hP : va_P g.1 vwCl ([(x0, .inr (9, fx_q_8)), (m0, .inr (10, fm_q_8)), (aL g o0 1 fo)] ++ (Rc_q_8 ++ Rm_q_8)) H := hP
  have hD : va_D (lw_A s) ([(x0, .inr (9, fx_q_8)), (m0, .inr (10, fm_q_8)), (aL g o0 1 fo)] ++ (Rc_q_8 ++ Rm_q_8)) := hD
  refine lv_pop hx hb dL_law_257 rfl ?_
  refine lv_goto (tgt := 1341) hx hb dL_law_258 (by decide) ?_
  refine W.widen (k := 1000 + 4 * (i + 6)) (n := 100000 + 700 * (i + 6)) (by show 1000 + 4 * i + 0 + 0 ≤ 1000 + 4 * (i + 6); omega) (by show 100000 + 700 * i + 0 + 0 ≤ 100000 + 700 * (i + 6); omega) ?_
  exact kk ((sp_feed S (xs (i + 1)) (xs (i + 2)) (xs (i + 3)) (xs (i + 4)) (xs (i + 5))).2.2) t_254 fo _ H locs ls (ok_feed _ _ _ _ _ hOk) ⟨_, _, _, _, rfl, hc, hm⟩ hP hD hS (lv_sub hl [0, 1, 2, 3, 4] rfl)
set_option maxHeartbeats 8000000 in
set_option maxRecDepth 100000 in
theorem lc_siege {p : Program} {e : Env} {s : State} {m : MethodId} {below : List Frame} {meth : Method} {c : Code} {Q : State → Prop} (l : Launch) (hlt : l.stackTraces = false) (g : he_G) {b Ln : Nat} {xs : Nat → Int32} (C0 : lw_C p s m meth c b Ln xs g) (i : Nat) (hi : i + 6 ≤ Ln) (hL : Ln ≤ 3072) (x0 m0 o0 : Nat) (S : AbS) (t : Int32) (fo : Nat → Int64) (W9 : va_W) (hOk : okS S) (hI : IL g x0 m0 o0 S S t fo W9) {H : Heap} {locs : List Loc} {ls : Array Slot} (hP : va_P g.1 vwCl W9 H) (hD : va_D (lw_A s) W9) (hS : va_S (lw_A s) s.heap H locs) (hl : lv_has ls 8 [(0, .ref b), (1, .ref x0), (2, .ref m0), (3, .ref o0), (4, .int (nI i))]) (kk : ∀ (S2 : AbS) (t2 : Int32) (fo2 : Nat → Int64) (W2 : va_W) (H2 : Heap) (locs2 : List Loc) (ls2 : Array Slot), okS S2 → IL g x0 m0 o0 S2 S2 t2 fo2 W2 → va_P g.1 vwCl W2 H2 → va_D (lw_A s) W2 → va_S (lw_A s) s.heap H2 locs2 → lv_has ls2 8 [(0, .ref b), (1, .ref x0), (2, .ref m0), (3, .ref o0), (4, .int (nI i))] → W p l e room_1 s m #[Value.ref b] below meth c H2 locs2 (1000 + 4 * (i + 6)) (100000 + 700 * (i + 6)) Q (F0 m 1341 ls2 [])) : W p l e room_1 s m #[Value.ref b] below meth c H locs (1000 + 4 * i) (100000 + 700 * i) Q (F0 m 261 ls []) := by
  obtain ⟨hx, hb, hr, hml, hown, hts, hX, hbl, hlk, hK, hE, hA, hbA, hNc⟩ := C0
  obtain ⟨fx, fm, Rc, Rm, rfl, hc, hm⟩ := hI
  refine lv_aload_n hx hb dL_law_261 rfl (lv_at hl 1 rfl) ?_
  refine lv_aload_n hx hb dL_law_262 rfl (lv_at hl 0 rfl) ?_
  refine lv_iload hx hb dL_law_263 (lv_at hl 4 rfl) ?_
  refine lv_iconst (v := 1) hx hb dL_law_265 (by decide) ?_
  refine lv_iadd hx hb dL_law_266 ?_
  refine he_top (nI (i + 1)) (nI_add i 1) ?_
  refine he_sld hx hb hX hbl hbA hS (i + 1) rfl (by omega) (by omega) (xs (i + 1)) rfl dL_law_267 ?_
  refine lv_aload_n hx hb dL_law_268 rfl (lv_at hl 3 rfl) ?_
  refine he_ci (wc := ([(x0, .inr (9, fx)), (m0, .inr (10, fm)), (aL g o0 1 fo)] ++ (Rc ++ Rm))) (wr := []) (vx_runSW (As := [.ref x0, .int (xs (i + 1)), .ref o0]) (rest := []) ⟨hx, hb, hml, hown, hts⟩ (w_siege l hlt g x0 m0 o0 S S t fo _ (xs (i + 1)) ⟨_, _, _, _, rfl, hc, hm⟩ H.size) (vx_cwSW 3 hts gL_law_L_siege rfl rfl rfl (by decide +kernel) ⟨Nat.le_of_ble_eq_true rfl, Nat.le_of_ble_eq_true rfl⟩) (he_preS (wc := ([(x0, .inr (9, fx)), (m0, .inr (10, fm)), (aL g o0 1 fo)] ++ (Rc ++ Rm))) hK hP hD hS hA hE (List.range (([(x0, .inr (9, fx)), (m0, .inr (10, fm)), (aL g o0 1 fo)] ++ (Rc ++ Rm)) : va_W).length) (he_all _) (he_allnd _)) rfl rfl hl.1 rfl (lv_room (Nat.le_of_ble_eq_true rfl)) dL_law_269 ⟨(by show 1000 + 4 * i + 1 ≤ 601024; omega), (by show 100000 + 700 * i + 6 ≤ 7293034; omega)⟩) hP hD hS hA (List.range (([(x0, .inr (9, fx)), (m0, .inr (10, fm)), (aL g o0 1 fo)] ++ (Rc ++ Rm)) : va_W).length) [] (he_all _) rfl rfl (fun _ h9 => absurd h9 List.not_mem_nil) (fun r_1 u_2 H locs hu_3 hP hD hS => ?_)
  obtain ⟨fo_269, hI9, hr269, ho269⟩ := hu_3
  obtain ⟨fx_q_4, fm_q_4, Rc_q_4, Rm_q_4, rfl, hc, hm⟩ := hI9
  have hP : va_P g.1 vwCl ([(x0, .inr (9, fx_q_4)), (m0, .inr (10, fm_q_4)), (aL g o0 1 fo_269)] ++ (Rc_q_4 ++ Rm_q_4)) H := hP
  have hD : va_D (lw_A s) ([(x0, .inr (9, fx_q_4)), (m0, .inr (10, fm_q_4)), (aL g o0 1 fo_269)] ++ (Rc_q_4 ++ Rm_q_4)) := hD
  refine lv_istore (lv' := [(5, .int r_1), (0, .ref b), (1, .ref x0), (2, .ref m0), (3, .ref o0), (4, .int (nI i))]) hx hb dL_law_272 hl (by decide) rfl (fun ls hl => ?_)
  refine lv_aload_n hx hb dL_law_274 rfl (lv_at hl 3 rfl) ?_
  refine lv_aload_n hx hb dL_law_275 rfl (lv_at hl 1 rfl) ?_
  refine lv_iload hx hb dL_law_276 (lv_at hl 5 rfl) ?_
  refine lv_iconst (v := 1) hx hb dL_law_278 (by decide) ?_
  refine lv_iadd hx hb dL_law_279 ?_
  refine he_top (nI (i + 1)) (nI_add i 1) ?_
  refine he_sld hx hb hX hbl hbA hS (i + 1) rfl (by omega) (by omega) (xs (i + 1)) rfl dL_law_280 ?_
  refine he_ci (wc := ([(x0, .inr (9, fx_q_4)), (m0, .inr (10, fm_q_4)), (aL g o0 1 fo_269)] ++ (Rc_q_4 ++ Rm_q_4))) (wr := []) (va_runV (As := [.int (xs (i + 1))]) (rest := []) ⟨hx, hb, hml, hown, hts⟩ (il_mI (j_siege l g m0 S t _ (xs (i + 1)) hm) hc H.size) (cwV 1 hts gL_law_X11_siege rfl rfl rfl (by decide +kernel) ⟨Nat.le_of_ble_eq_true rfl, Nat.le_of_ble_eq_true rfl⟩) (he_preV (wc := ([(x0, .inr (9, fx_q_4)), (m0, .inr (10, fm_q_4)), (aL g o0 1 fo_269)] ++ (Rc_q_4 ++ Rm_q_4))) hK hP hD hS hA hE (List.range (([(x0, .inr (9, fx_q_4)), (m0, .inr (10, fm_q_4)), (aL g o0 1 fo_269)] ++ (Rc_q_4 ++ Rm_q_4)) : va_W).length) (he_all _) (he_allnd _) 1 rfl rfl) rfl rfl hl.1 rfl (lv_room (Nat.le_of_ble_eq_true rfl)) dL_law_281 ⟨(by show 1000 + 4 * i + 1 + 1 ≤ 601024; omega), (by show 100000 + 700 * i + 6 + 15 ≤ 7293034; omega)⟩) hP hD hS hA (List.range (([(x0, .inr (9, fx_q_4)), (m0, .inr (10, fm_q_4)), (aL g o0 1 fo_269)] ++ (Rc_q_4 ++ Rm_q_4)) : va_W).length) [] (he_all _) rfl rfl (fun _ h9 => absurd h9 List.not_mem_nil) (fun r_5 u_6 H locs hu_7 hP hD hS => ?_)
  obtain ⟨t_281, hI9, ht281, hm281⟩ := hu_7
  obtain ⟨fx_q_8, fm_q_8, Rc_q_8, Rm_q_8, rfl, hc, hm⟩ := hI9
  have hP : va_P g.1 vwCl ([(x0, .inr (9, fx_q_8)), (m0, .inr (10, fm_q_8)), (aL g o0 1 fo_269)] ++ (Rc_q_8 ++ Rm_q_8)) H := hP
  have hD : va_D (lw_A s) ([(x0, .inr (9, fx_q_8)), (m0, .inr (10, fm_q_8)), (aL g o0 1 fo_269)] ++ (Rc_q_8 ++ Rm_q_8)) := hD
  refine lv_istore (lv' := [(6, .int r_5), (5, .int r_1), (0, .ref b), (1, .ref x0), (2, .ref m0), (3, .ref o0), (4, .int (nI i))]) hx hb dL_law_284 hl (by decide) rfl (fun ls hl => ?_)
  refine lv_goto (tgt := 1341) hx hb dL_law_286 (by decide) ?_
  refine W.widen (k := 1000 + 4 * (i + 6)) (n := 100000 + 700 * (i + 6)) (by show 1000 + 4 * i + 1 + 1 ≤ 1000 + 4 * (i + 6); omega) (by show 100000 + 700 * i + 6 + 15 ≤ 100000 + 700 * (i + 6); omega) ?_
  exact kk ((sp_siege S (xs (i + 1))).2.2) t_281 fo_269 _ H locs ls (ok_siege _ hOk) ⟨_, _, _, _, rfl, hc, hm⟩ hP hD hS (lv_sub hl [2, 3, 4, 5, 6] rfl)
set_option maxHeartbeats 8000000 in
set_option maxRecDepth 100000 in
theorem lc_contract {p : Program} {e : Env} {s : State} {m : MethodId} {below : List Frame} {meth : Method} {c : Code} {Q : State → Prop} (l : Launch) (hlt : l.stackTraces = false) (g : he_G) {b Ln : Nat} {xs : Nat → Int32} (C0 : lw_C p s m meth c b Ln xs g) (i : Nat) (hi : i + 6 ≤ Ln) (hL : Ln ≤ 3072) (x0 m0 o0 : Nat) (S : AbS) (t : Int32) (fo : Nat → Int64) (W9 : va_W) (hOk : okS S) (hI : IL g x0 m0 o0 S S t fo W9) {H : Heap} {locs : List Loc} {ls : Array Slot} (hP : va_P g.1 vwCl W9 H) (hD : va_D (lw_A s) W9) (hS : va_S (lw_A s) s.heap H locs) (hl : lv_has ls 8 [(0, .ref b), (1, .ref x0), (2, .ref m0), (3, .ref o0), (4, .int (nI i))]) (kk : ∀ (S2 : AbS) (t2 : Int32) (fo2 : Nat → Int64) (W2 : va_W) (H2 : Heap) (locs2 : List Loc) (ls2 : Array Slot), okS S2 → IL g x0 m0 o0 S2 S2 t2 fo2 W2 → va_P g.1 vwCl W2 H2 → va_D (lw_A s) W2 → va_S (lw_A s) s.heap H2 locs2 → lv_has ls2 8 [(0, .ref b), (1, .ref x0), (2, .ref m0), (3, .ref o0), (4, .int (nI i))] → W p l e room_1 s m #[Value.ref b] below meth c H2 locs2 (1000 + 4 * (i + 6)) (100000 + 700 * (i + 6)) Q (F0 m 1341 ls2 [])) : W p l e room_1 s m #[Value.ref b] below meth c H locs (1000 + 4 * i) (100000 + 700 * i) Q (F0 m 289 ls []) := by
  obtain ⟨hx, hb, hr, hml, hown, hts, hX, hbl, hlk, hK, hE, hA, hbA, hNc⟩ := C0
  obtain ⟨fx, fm, Rc, Rm, rfl, hc, hm⟩ := hI
  refine lv_aload_n hx hb dL_law_289 rfl (lv_at hl 1 rfl) ?_
  refine lv_aload_n hx hb dL_law_290 rfl (lv_at hl 0 rfl) ?_
  refine lv_iload hx hb dL_law_291 (lv_at hl 4 rfl) ?_
  refine lv_iconst (v := 1) hx hb dL_law_293 (by decide) ?_
  refine lv_iadd hx hb dL_law_294 ?_
  refine he_top (nI (i + 1)) (nI_add i 1) ?_
  refine he_sld hx hb hX hbl hbA hS (i + 1) rfl (by omega) (by omega) (xs (i + 1)) rfl dL_law_295 ?_
  refine lv_aload_n hx hb dL_law_296 rfl (lv_at hl 3 rfl) ?_
  refine he_ci (wc := ([(x0, .inr (9, fx)), (m0, .inr (10, fm)), (aL g o0 1 fo)] ++ (Rc ++ Rm))) (wr := []) (vx_runSW (As := [.ref x0, .int (xs (i + 1)), .ref o0]) (rest := []) ⟨hx, hb, hml, hown, hts⟩ (w_contract l hlt g x0 m0 o0 S S t fo _ (xs (i + 1)) ⟨_, _, _, _, rfl, hc, hm⟩ H.size) (vx_cwSW 3 hts gL_law_L_contract rfl rfl rfl (by decide +kernel) ⟨Nat.le_of_ble_eq_true rfl, Nat.le_of_ble_eq_true rfl⟩) (he_preS (wc := ([(x0, .inr (9, fx)), (m0, .inr (10, fm)), (aL g o0 1 fo)] ++ (Rc ++ Rm))) hK hP hD hS hA hE (List.range (([(x0, .inr (9, fx)), (m0, .inr (10, fm)), (aL g o0 1 fo)] ++ (Rc ++ Rm)) : va_W).length) (he_all _) (he_allnd _)) rfl rfl hl.1 rfl (lv_room (Nat.le_of_ble_eq_true rfl)) dL_law_297 ⟨(by show 1000 + 4 * i + 1 ≤ 601024; omega), (by show 100000 + 700 * i + 6 ≤ 7293034; omega)⟩) hP hD hS hA (List.range (([(x0, .inr (9, fx)), (m0, .inr (10, fm)), (aL g o0 1 fo)] ++ (Rc ++ Rm)) : va_W).length) [] (he_all _) rfl rfl (fun _ h9 => absurd h9 List.not_mem_nil) (fun r_1 u_2 H locs hu_3 hP hD hS => ?_)
  obtain ⟨fo_297, hI9, hr297, ho297⟩ := hu_3
  obtain ⟨fx_q_4, fm_q_4, Rc_q_4, Rm_q_4, rfl, hc, hm⟩ := hI9
  have hP : va_P g.1 vwCl ([(x0, .inr (9, fx_q_4)), (m0, .inr (10, fm_q_4)), (aL g o0 1 fo_297)] ++ (Rc_q_4 ++ Rm_q_4)) H := hP
  have hD : va_D (lw_A s) ([(x0, .inr (9, fx_q_4)), (m0, .inr (10, fm_q_4)), (aL g o0 1 fo_297)] ++ (Rc_q_4 ++ Rm_q_4)) := hD
  refine lv_istore (lv' := [(5, .int r_1), (0, .ref b), (1, .ref x0), (2, .ref m0), (3, .ref o0), (4, .int (nI i))]) hx hb dL_law_300 hl (by decide) rfl (fun ls hl => ?_)
  refine lv_aload_n hx hb dL_law_302 rfl (lv_at hl 3 rfl) ?_
  refine lv_aload_n hx hb dL_law_303 rfl (lv_at hl 1 rfl) ?_
  refine lv_iload hx hb dL_law_304 (lv_at hl 5 rfl) ?_
  refine lv_iconst (v := 1) hx hb dL_law_306 (by decide) ?_
  refine lv_iadd hx hb dL_law_307 ?_
  refine he_top (nI (i + 1)) (nI_add i 1) ?_
  refine he_sld hx hb hX hbl hbA hS (i + 1) rfl (by omega) (by omega) (xs (i + 1)) rfl dL_law_308 ?_
  refine he_ci (wc := ([(x0, .inr (9, fx_q_4)), (m0, .inr (10, fm_q_4)), (aL g o0 1 fo_297)] ++ (Rc_q_4 ++ Rm_q_4))) (wr := []) (va_runV (As := [.int (xs (i + 1))]) (rest := []) ⟨hx, hb, hml, hown, hts⟩ (il_mI (j_contract l g m0 S t _ (xs (i + 1)) hm) hc H.size) (cwV 1 hts gL_law_X11_contract rfl rfl rfl (by decide +kernel) ⟨Nat.le_of_ble_eq_true rfl, Nat.le_of_ble_eq_true rfl⟩) (he_preV (wc := ([(x0, .inr (9, fx_q_4)), (m0, .inr (10, fm_q_4)), (aL g o0 1 fo_297)] ++ (Rc_q_4 ++ Rm_q_4))) hK hP hD hS hA hE (List.range (([(x0, .inr (9, fx_q_4)), (m0, .inr (10, fm_q_4)), (aL g o0 1 fo_297)] ++ (Rc_q_4 ++ Rm_q_4)) : va_W).length) (he_all _) (he_allnd _) 1 rfl rfl) rfl rfl hl.1 rfl (lv_room (Nat.le_of_ble_eq_true rfl)) dL_law_309 ⟨(by show 1000 + 4 * i + 1 + 0 ≤ 601024; omega), (by show 100000 + 700 * i + 6 + 0 ≤ 7293034; omega)⟩) hP hD hS hA (List.range (([(x0, .inr (9, fx_q_4)), (m0, .inr (10, fm_q_4)), (aL g o0 1 fo_297)] ++ (Rc_q_4 ++ Rm_q_4)) : va_W).length) [] (he_all _) rfl rfl (fun _ h9 => absurd h9 List.not_mem_nil) (fun r_5 u_6 H locs hu_7 hP hD hS => ?_)
  obtain ⟨t_309, hI9, ht309, hm309⟩ := hu_7
  obtain ⟨fx_q_8, fm_q_8, Rc_q_8, Rm_q_8, rfl, hc, hm⟩ := hI9
  have hP : va_P g.1 vwCl ([(x0, .inr (9, fx_q_8)), (m0, .inr (10, fm_q_8)), (aL g o0 1 fo_297)] ++ (Rc_q_8 ++ Rm_q_8)) H := hP
  have hD : va_D (lw_A s) ([(x0, .inr (9, fx_q_8)), (m0, .inr (10, fm_q_8)), (aL g o0 1 fo_297)] ++ (Rc_q_8 ++ Rm_q_8)) := hD
  refine lv_istore (lv' := [(6, .int r_5), (5, .int r_1), (0, .ref b), (1, .ref x0), (2, .ref m0), (3, .ref o0), (4, .int (nI i))]) hx hb dL_law_312 hl (by decide) rfl (fun ls hl => ?_)
  refine lv_goto (tgt := 1341) hx hb dL_law_314 (by decide) ?_
  refine W.widen (k := 1000 + 4 * (i + 6)) (n := 100000 + 700 * (i + 6)) (by show 1000 + 4 * i + 1 + 0 ≤ 1000 + 4 * (i + 6); omega) (by show 100000 + 700 * i + 6 + 0 ≤ 100000 + 700 * (i + 6); omega) ?_
  exact kk ((sp_contract S (xs (i + 1))).2.2) t_309 fo_297 _ H locs ls (ok_contract _ hOk) ⟨_, _, _, _, rfl, hc, hm⟩ hP hD hS (lv_sub hl [2, 3, 4, 5, 6] rfl)
set_option maxHeartbeats 8000000 in
set_option maxRecDepth 100000 in
theorem lc_fault {p : Program} {e : Env} {s : State} {m : MethodId} {below : List Frame} {meth : Method} {c : Code} {Q : State → Prop} (l : Launch) (hlt : l.stackTraces = false) (g : he_G) {b Ln : Nat} {xs : Nat → Int32} (C0 : lw_C p s m meth c b Ln xs g) (i : Nat) (hi : i + 6 ≤ Ln) (hL : Ln ≤ 3072) (x0 m0 o0 : Nat) (S : AbS) (t : Int32) (fo : Nat → Int64) (W9 : va_W) (hOk : okS S) (hI : IL g x0 m0 o0 S S t fo W9) {H : Heap} {locs : List Loc} {ls : Array Slot} (hP : va_P g.1 vwCl W9 H) (hD : va_D (lw_A s) W9) (hS : va_S (lw_A s) s.heap H locs) (hl : lv_has ls 8 [(0, .ref b), (1, .ref x0), (2, .ref m0), (3, .ref o0), (4, .int (nI i))]) (kk : ∀ (S2 : AbS) (t2 : Int32) (fo2 : Nat → Int64) (W2 : va_W) (H2 : Heap) (locs2 : List Loc) (ls2 : Array Slot), okS S2 → IL g x0 m0 o0 S2 S2 t2 fo2 W2 → va_P g.1 vwCl W2 H2 → va_D (lw_A s) W2 → va_S (lw_A s) s.heap H2 locs2 → lv_has ls2 8 [(0, .ref b), (1, .ref x0), (2, .ref m0), (3, .ref o0), (4, .int (nI i))] → W p l e room_1 s m #[Value.ref b] below meth c H2 locs2 (1000 + 4 * (i + 6)) (100000 + 700 * (i + 6)) Q (F0 m 1341 ls2 [])) : W p l e room_1 s m #[Value.ref b] below meth c H locs (1000 + 4 * i) (100000 + 700 * i) Q (F0 m 317 ls []) := by
  obtain ⟨hx, hb, hr, hml, hown, hts, hX, hbl, hlk, hK, hE, hA, hbA, hNc⟩ := C0
  obtain ⟨fx, fm, Rc, Rm, rfl, hc, hm⟩ := hI
  refine lv_aload_n hx hb dL_law_317 rfl (lv_at hl 1 rfl) ?_
  refine he_ci (wc := ([(x0, .inr (9, fx)), (m0, .inr (10, fm)), (aL g o0 1 fo)] ++ (Rc ++ Rm))) (wr := []) (va_runV (As := []) (rest := []) ⟨hx, hb, hml, hown, hts⟩ (il_cI (k_fault l hlt g x0 S _  hc) hm H.size) (cwV 0 hts gL_law_X10_fault rfl rfl rfl (by decide +kernel) ⟨Nat.le_of_ble_eq_true rfl, Nat.le_of_ble_eq_true rfl⟩) (he_preV (wc := ([(x0, .inr (9, fx)), (m0, .inr (10, fm)), (aL g o0 1 fo)] ++ (Rc ++ Rm))) hK hP hD hS hA hE (List.range (([(x0, .inr (9, fx)), (m0, .inr (10, fm)), (aL g o0 1 fo)] ++ (Rc ++ Rm)) : va_W).length) (he_all _) (he_allnd _) 0 rfl rfl) rfl rfl hl.1 rfl (lv_room (Nat.le_of_ble_eq_true rfl)) dL_law_318 ⟨(by show 1000 + 4 * i + 0 ≤ 601024; omega), (by show 100000 + 700 * i + 0 ≤ 7293034; omega)⟩) hP hD hS hA (List.range (([(x0, .inr (9, fx)), (m0, .inr (10, fm)), (aL g o0 1 fo)] ++ (Rc ++ Rm)) : va_W).length) [] (he_all _) rfl rfl (fun _ h9 => absurd h9 List.not_mem_nil) (fun r_1 u_2 H locs hu_3 hP hD hS => ?_)
  obtain ⟨hI9, hp318⟩ := hu_3
  obtain ⟨fx_q_4, fm_q_4, Rc_q_4, Rm_q_4, rfl, hc, hm⟩ := hI9
  have hP : va_P g.1 vwCl ([(x0, .inr (9, fx_q_4)), (m0, .inr (10, fm_q_4)), (aL g o0 1 fo)] ++ (Rc_q_4 ++ Rm_q_4)) H := hP
  have hD : va_D (lw_A s) ([(x0, .inr (9, fx_q_4)), (m0, .inr (10, fm_q_4)), (aL g o0 1 fo)] ++ (Rc_q_4 ++ Rm_q_4)) := hD
  refine lv_pop hx hb dL_law_321 rfl ?_
  refine lv_aload_n hx hb dL_law_322 rfl (lv_at hl 2 rfl) ?_
  refine he_ci (wc := ([(x0, .inr (9, fx_q_4)), (m0, .inr (10, fm_q_4)), (aL g o0 1 fo)] ++ (Rc_q_4 ++ Rm_q_4))) (wr := []) (va_runV (As := []) (rest := []) ⟨hx, hb, hml, hown, hts⟩ (il_mI (j_fault l g m0 S t _  hm) hc H.size) (cwV 0 hts gL_law_X11_fault rfl rfl rfl (by decide +kernel) ⟨Nat.le_of_ble_eq_true rfl, Nat.le_of_ble_eq_true rfl⟩) (he_preV (wc := ([(x0, .inr (9, fx_q_4)), (m0, .inr (10, fm_q_4)), (aL g o0 1 fo)] ++ (Rc_q_4 ++ Rm_q_4))) hK hP hD hS hA hE (List.range (([(x0, .inr (9, fx_q_4)), (m0, .inr (10, fm_q_4)), (aL g o0 1 fo)] ++ (Rc_q_4 ++ Rm_q_4)) : va_W).length) (he_all _) (he_allnd _) 1 rfl rfl) rfl rfl hl.1 rfl (lv_room (Nat.le_of_ble_eq_true rfl)) dL_law_323 ⟨(by show 1000 + 4 * i + 0 + 0 ≤ 601024; omega), (by show 100000 + 700 * i + 0 + 0 ≤ 7293034; omega)⟩) hP hD hS hA (List.range (([(x0, .inr (9, fx_q_4)), (m0, .inr (10, fm_q_4)), (aL g o0 1 fo)] ++ (Rc_q_4 ++ Rm_q_4)) : va_W).length) [] (he_all _) rfl rfl (fun _ h9 => absurd h9 List.not_mem_nil) (fun r_5 u_6 H locs hu_7 hP hD hS => ?_)
  obtain ⟨t_323, hI9, ht323, hm323⟩ := hu_7
  obtain ⟨fx_q_8, fm_q_8, Rc_q_8, Rm_q_8, rfl, hc, hm⟩ := hI9
  have hP : va_P g.1 vwCl ([(x0, .inr (9, fx_q_8)), (m0, .inr (10, fm_q_8)), (aL g o0 1 fo)] ++ (Rc_q_8 ++ Rm_q_8)) H := hP
  have hD : va_D (lw_A s) ([(x0, .inr (9, fx_q_8)), (m0, .inr (10, fm_q_8)), (aL g o0 1 fo)] ++ (Rc_q_8 ++ Rm_q_8)) := hD
  refine lv_pop hx hb dL_law_326 rfl ?_
  refine lv_goto (tgt := 1341) hx hb dL_law_327 (by decide) ?_
  refine W.widen (k := 1000 + 4 * (i + 6)) (n := 100000 + 700 * (i + 6)) (by show 1000 + 4 * i + 0 + 0 ≤ 1000 + 4 * (i + 6); omega) (by show 100000 + 700 * i + 0 + 0 ≤ 100000 + 700 * (i + 6); omega) ?_
  exact kk ((sp_fault S).2.2) t_323 fo _ H locs ls (ok_fault hOk) ⟨_, _, _, _, rfl, hc, hm⟩ hP hD hS (lv_sub hl [0, 1, 2, 3, 4] rfl)
set_option maxHeartbeats 8000000 in
set_option maxRecDepth 100000 in
theorem lc_told {p : Program} {e : Env} {s : State} {m : MethodId} {below : List Frame} {meth : Method} {c : Code} {Q : State → Prop} (l : Launch) (hlt : l.stackTraces = false) (g : he_G) {b Ln : Nat} {xs : Nat → Int32} (C0 : lw_C p s m meth c b Ln xs g) (i : Nat) (hi : i + 6 ≤ Ln) (hL : Ln ≤ 3072) (x0 m0 o0 : Nat) (S : AbS) (t : Int32) (fo : Nat → Int64) (W9 : va_W) (hOk : okS S) (hI : IL g x0 m0 o0 S S t fo W9) {H : Heap} {locs : List Loc} {ls : Array Slot} (hP : va_P g.1 vwCl W9 H) (hD : va_D (lw_A s) W9) (hS : va_S (lw_A s) s.heap H locs) (hl : lv_has ls 8 [(0, .ref b), (1, .ref x0), (2, .ref m0), (3, .ref o0), (4, .int (nI i))]) (kk : ∀ (S2 : AbS) (t2 : Int32) (fo2 : Nat → Int64) (W2 : va_W) (H2 : Heap) (locs2 : List Loc) (ls2 : Array Slot), okS S2 → IL g x0 m0 o0 S2 S2 t2 fo2 W2 → va_P g.1 vwCl W2 H2 → va_D (lw_A s) W2 → va_S (lw_A s) s.heap H2 locs2 → lv_has ls2 8 [(0, .ref b), (1, .ref x0), (2, .ref m0), (3, .ref o0), (4, .int (nI i))] → W p l e room_1 s m #[Value.ref b] below meth c H2 locs2 (1000 + 4 * (i + 6)) (100000 + 700 * (i + 6)) Q (F0 m 1341 ls2 [])) : W p l e room_1 s m #[Value.ref b] below meth c H locs (1000 + 4 * i) (100000 + 700 * i) Q (F0 m 330 ls []) := by
  obtain ⟨hx, hb, hr, hml, hown, hts, hX, hbl, hlk, hK, hE, hA, hbA, hNc⟩ := C0
  obtain ⟨fx, fm, Rc, Rm, rfl, hc, hm⟩ := hI
  refine lv_aload_n hx hb dL_law_330 rfl (lv_at hl 1 rfl) ?_
  refine lv_aload_n hx hb dL_law_331 rfl (lv_at hl 0 rfl) ?_
  refine lv_iload hx hb dL_law_332 (lv_at hl 4 rfl) ?_
  refine lv_iconst (v := 1) hx hb dL_law_334 (by decide) ?_
  refine lv_iadd hx hb dL_law_335 ?_
  refine he_top (nI (i + 1)) (nI_add i 1) ?_
  refine he_sld hx hb hX hbl hbA hS (i + 1) rfl (by omega) (by omega) (xs (i + 1)) rfl dL_law_336 ?_
  refine lv_aload_n hx hb dL_law_337 rfl (lv_at hl 3 rfl) ?_
  refine he_ci (wc := ([(x0, .inr (9, fx)), (m0, .inr (10, fm)), (aL g o0 1 fo)] ++ (Rc ++ Rm))) (wr := []) (vx_runSW (As := [.ref x0, .int (xs (i + 1)), .ref o0]) (rest := []) ⟨hx, hb, hml, hown, hts⟩ (w_told l hlt g x0 m0 o0 S S t fo _ (xs (i + 1)) ⟨_, _, _, _, rfl, hc, hm⟩ H.size) (vx_cwSW 3 hts gL_law_L_told rfl rfl rfl (by decide +kernel) ⟨Nat.le_of_ble_eq_true rfl, Nat.le_of_ble_eq_true rfl⟩) (he_preS (wc := ([(x0, .inr (9, fx)), (m0, .inr (10, fm)), (aL g o0 1 fo)] ++ (Rc ++ Rm))) hK hP hD hS hA hE (List.range (([(x0, .inr (9, fx)), (m0, .inr (10, fm)), (aL g o0 1 fo)] ++ (Rc ++ Rm)) : va_W).length) (he_all _) (he_allnd _)) rfl rfl hl.1 rfl (lv_room (Nat.le_of_ble_eq_true rfl)) dL_law_338 ⟨(by show 1000 + 4 * i + 1 ≤ 601024; omega), (by show 100000 + 700 * i + 6 ≤ 7293034; omega)⟩) hP hD hS hA (List.range (([(x0, .inr (9, fx)), (m0, .inr (10, fm)), (aL g o0 1 fo)] ++ (Rc ++ Rm)) : va_W).length) [] (he_all _) rfl rfl (fun _ h9 => absurd h9 List.not_mem_nil) (fun r_1 u_2 H locs hu_3 hP hD hS => ?_)
  obtain ⟨fo_338, hI9, hr338, ho338⟩ := hu_3
  obtain ⟨fx_q_4, fm_q_4, Rc_q_4, Rm_q_4, rfl, hc, hm⟩ := hI9
  have hP : va_P g.1 vwCl ([(x0, .inr (9, fx_q_4)), (m0, .inr (10, fm_q_4)), (aL g o0 1 fo_338)] ++ (Rc_q_4 ++ Rm_q_4)) H := hP
  have hD : va_D (lw_A s) ([(x0, .inr (9, fx_q_4)), (m0, .inr (10, fm_q_4)), (aL g o0 1 fo_338)] ++ (Rc_q_4 ++ Rm_q_4)) := hD
  refine lv_istore (lv' := [(5, .int r_1), (0, .ref b), (1, .ref x0), (2, .ref m0), (3, .ref o0), (4, .int (nI i))]) hx hb dL_law_341 hl (by decide) rfl (fun ls hl => ?_)
  refine lv_aload_n hx hb dL_law_343 rfl (lv_at hl 3 rfl) ?_
  refine lv_aload_n hx hb dL_law_344 rfl (lv_at hl 1 rfl) ?_
  refine lv_iload hx hb dL_law_345 (lv_at hl 5 rfl) ?_
  refine lv_iconst (v := 1) hx hb dL_law_347 (by decide) ?_
  refine lv_iadd hx hb dL_law_348 ?_
  refine he_top (nI (i + 1)) (nI_add i 1) ?_
  refine he_sld hx hb hX hbl hbA hS (i + 1) rfl (by omega) (by omega) (xs (i + 1)) rfl dL_law_349 ?_
  refine he_ci (wc := ([(x0, .inr (9, fx_q_4)), (m0, .inr (10, fm_q_4)), (aL g o0 1 fo_338)] ++ (Rc_q_4 ++ Rm_q_4))) (wr := []) (va_runV (As := [.int (xs (i + 1))]) (rest := []) ⟨hx, hb, hml, hown, hts⟩ (il_mI (j_told l g m0 S t _ (xs (i + 1)) hm) hc H.size) (cwV 1 hts gL_law_X11_told rfl rfl rfl (by decide +kernel) ⟨Nat.le_of_ble_eq_true rfl, Nat.le_of_ble_eq_true rfl⟩) (he_preV (wc := ([(x0, .inr (9, fx_q_4)), (m0, .inr (10, fm_q_4)), (aL g o0 1 fo_338)] ++ (Rc_q_4 ++ Rm_q_4))) hK hP hD hS hA hE (List.range (([(x0, .inr (9, fx_q_4)), (m0, .inr (10, fm_q_4)), (aL g o0 1 fo_338)] ++ (Rc_q_4 ++ Rm_q_4)) : va_W).length) (he_all _) (he_allnd _) 1 rfl rfl) rfl rfl hl.1 rfl (lv_room (Nat.le_of_ble_eq_true rfl)) dL_law_350 ⟨(by show 1000 + 4 * i + 1 + 0 ≤ 601024; omega), (by show 100000 + 700 * i + 6 + 0 ≤ 7293034; omega)⟩) hP hD hS hA (List.range (([(x0, .inr (9, fx_q_4)), (m0, .inr (10, fm_q_4)), (aL g o0 1 fo_338)] ++ (Rc_q_4 ++ Rm_q_4)) : va_W).length) [] (he_all _) rfl rfl (fun _ h9 => absurd h9 List.not_mem_nil) (fun r_5 u_6 H locs hu_7 hP hD hS => ?_)
  obtain ⟨t_350, hI9, ht350, hm350⟩ := hu_7
  obtain ⟨fx_q_8, fm_q_8, Rc_q_8, Rm_q_8, rfl, hc, hm⟩ := hI9
  have hP : va_P g.1 vwCl ([(x0, .inr (9, fx_q_8)), (m0, .inr (10, fm_q_8)), (aL g o0 1 fo_338)] ++ (Rc_q_8 ++ Rm_q_8)) H := hP
  have hD : va_D (lw_A s) ([(x0, .inr (9, fx_q_8)), (m0, .inr (10, fm_q_8)), (aL g o0 1 fo_338)] ++ (Rc_q_8 ++ Rm_q_8)) := hD
  refine lv_istore (lv' := [(6, .int r_5), (5, .int r_1), (0, .ref b), (1, .ref x0), (2, .ref m0), (3, .ref o0), (4, .int (nI i))]) hx hb dL_law_353 hl (by decide) rfl (fun ls hl => ?_)
  refine lv_goto (tgt := 1341) hx hb dL_law_355 (by decide) ?_
  refine W.widen (k := 1000 + 4 * (i + 6)) (n := 100000 + 700 * (i + 6)) (by show 1000 + 4 * i + 1 + 0 ≤ 1000 + 4 * (i + 6); omega) (by show 100000 + 700 * i + 6 + 0 ≤ 100000 + 700 * (i + 6); omega) ?_
  exact kk ((sp_told S (xs (i + 1))).2.2) t_350 fo_338 _ H locs ls (ok_told _ hOk) ⟨_, _, _, _, rfl, hc, hm⟩ hP hD hS (lv_sub hl [2, 3, 4, 5, 6] rfl)
set_option maxHeartbeats 8000000 in
set_option maxRecDepth 100000 in
theorem lc_wall {p : Program} {e : Env} {s : State} {m : MethodId} {below : List Frame} {meth : Method} {c : Code} {Q : State → Prop} (l : Launch) (hlt : l.stackTraces = false) (g : he_G) {b Ln : Nat} {xs : Nat → Int32} (C0 : lw_C p s m meth c b Ln xs g) (i : Nat) (hi : i + 6 ≤ Ln) (hL : Ln ≤ 3072) (x0 m0 o0 : Nat) (S : AbS) (t : Int32) (fo : Nat → Int64) (W9 : va_W) (hOk : okS S) (hI : IL g x0 m0 o0 S S t fo W9) {H : Heap} {locs : List Loc} {ls : Array Slot} (hP : va_P g.1 vwCl W9 H) (hD : va_D (lw_A s) W9) (hS : va_S (lw_A s) s.heap H locs) (hl : lv_has ls 8 [(0, .ref b), (1, .ref x0), (2, .ref m0), (3, .ref o0), (4, .int (nI i))]) (kk : ∀ (S2 : AbS) (t2 : Int32) (fo2 : Nat → Int64) (W2 : va_W) (H2 : Heap) (locs2 : List Loc) (ls2 : Array Slot), okS S2 → IL g x0 m0 o0 S2 S2 t2 fo2 W2 → va_P g.1 vwCl W2 H2 → va_D (lw_A s) W2 → va_S (lw_A s) s.heap H2 locs2 → lv_has ls2 8 [(0, .ref b), (1, .ref x0), (2, .ref m0), (3, .ref o0), (4, .int (nI i))] → W p l e room_1 s m #[Value.ref b] below meth c H2 locs2 (1000 + 4 * (i + 6)) (100000 + 700 * (i + 6)) Q (F0 m 1341 ls2 [])) : W p l e room_1 s m #[Value.ref b] below meth c H locs (1000 + 4 * i) (100000 + 700 * i) Q (F0 m 358 ls []) := by
  obtain ⟨hx, hb, hr, hml, hown, hts, hX, hbl, hlk, hK, hE, hA, hbA, hNc⟩ := C0
  obtain ⟨fx, fm, Rc, Rm, rfl, hc, hm⟩ := hI
  refine lv_aload_n hx hb dL_law_358 rfl (lv_at hl 1 rfl) ?_
  refine lv_aload_n hx hb dL_law_359 rfl (lv_at hl 0 rfl) ?_
  refine lv_iload hx hb dL_law_360 (lv_at hl 4 rfl) ?_
  refine lv_iconst (v := 1) hx hb dL_law_362 (by decide) ?_
  refine lv_iadd hx hb dL_law_363 ?_
  refine he_top (nI (i + 1)) (nI_add i 1) ?_
  refine he_sld hx hb hX hbl hbA hS (i + 1) rfl (by omega) (by omega) (xs (i + 1)) rfl dL_law_364 ?_
  refine lv_aload_n hx hb dL_law_365 rfl (lv_at hl 0 rfl) ?_
  refine lv_iload hx hb dL_law_366 (lv_at hl 4 rfl) ?_
  refine lv_iconst (v := 2) hx hb dL_law_368 (by decide) ?_
  refine lv_iadd hx hb dL_law_369 ?_
  refine he_top (nI (i + 2)) (nI_add i 2) ?_
  refine he_sld hx hb hX hbl hbA hS (i + 2) rfl (by omega) (by omega) (xs (i + 2)) rfl dL_law_370 ?_
  refine lv_aload_n hx hb dL_law_371 rfl (lv_at hl 3 rfl) ?_
  refine he_ci (wc := ([(x0, .inr (9, fx)), (m0, .inr (10, fm)), (aL g o0 1 fo)] ++ (Rc ++ Rm))) (wr := []) (vx_runSW (As := [.ref x0, .int (xs (i + 1)), .int (xs (i + 2)), .ref o0]) (rest := []) ⟨hx, hb, hml, hown, hts⟩ (w_wall l hlt g x0 m0 o0 S S t fo _ (xs (i + 1)) (xs (i + 2)) ⟨_, _, _, _, rfl, hc, hm⟩ H.size) (vx_cwSW 4 hts gL_law_L_wall rfl rfl rfl (by decide +kernel) ⟨Nat.le_of_ble_eq_true rfl, Nat.le_of_ble_eq_true rfl⟩) (he_preSN (wc := ([(x0, .inr (9, fx)), (m0, .inr (10, fm)), (aL g o0 1 fo)] ++ (Rc ++ Rm))) hNc hK hP hD hS hA hE (List.range (([(x0, .inr (9, fx)), (m0, .inr (10, fm)), (aL g o0 1 fo)] ++ (Rc ++ Rm)) : va_W).length) (he_all _) (he_allnd _)) rfl rfl hl.1 rfl (lv_room (Nat.le_of_ble_eq_true rfl)) dL_law_372 ⟨(by show 1000 + 4 * i + 1 ≤ 601024; omega), (by show 100000 + 700 * i + 6 ≤ 7293034; omega)⟩) hP hD hS hA (List.range (([(x0, .inr (9, fx)), (m0, .inr (10, fm)), (aL g o0 1 fo)] ++ (Rc ++ Rm)) : va_W).length) [] (he_all _) rfl rfl (fun _ h9 => absurd h9 List.not_mem_nil) (fun r_1 u_2 H locs hu_3 hP hD hS => ?_)
  obtain ⟨fo_372, hI9, hr372, ho372⟩ := hu_3
  obtain ⟨fx_q_4, fm_q_4, Rc_q_4, Rm_q_4, rfl, hc, hm⟩ := hI9
  have hP : va_P g.1 vwCl ([(x0, .inr (9, fx_q_4)), (m0, .inr (10, fm_q_4)), (aL g o0 1 fo_372)] ++ (Rc_q_4 ++ Rm_q_4)) H := hP
  have hD : va_D (lw_A s) ([(x0, .inr (9, fx_q_4)), (m0, .inr (10, fm_q_4)), (aL g o0 1 fo_372)] ++ (Rc_q_4 ++ Rm_q_4)) := hD
  refine lv_istore (lv' := [(5, .int r_1), (0, .ref b), (1, .ref x0), (2, .ref m0), (3, .ref o0), (4, .int (nI i))]) hx hb dL_law_375 hl (by decide) rfl (fun ls hl => ?_)
  refine lv_aload_n hx hb dL_law_377 rfl (lv_at hl 3 rfl) ?_
  refine lv_aload_n hx hb dL_law_378 rfl (lv_at hl 1 rfl) ?_
  refine lv_iload hx hb dL_law_379 (lv_at hl 5 rfl) ?_
  refine lv_iconst (v := 1) hx hb dL_law_381 (by decide) ?_
  refine lv_iadd hx hb dL_law_382 ?_
  refine he_top (nI (i + 1)) (nI_add i 1) ?_
  refine he_sld hx hb hX hbl hbA hS (i + 1) rfl (by omega) (by omega) (xs (i + 1)) rfl dL_law_383 ?_
  refine lv_aload_n hx hb dL_law_384 rfl (lv_at hl 1 rfl) ?_
  refine lv_iload hx hb dL_law_385 (lv_at hl 5 rfl) ?_
  refine lv_iconst (v := 2) hx hb dL_law_387 (by decide) ?_
  refine lv_iadd hx hb dL_law_388 ?_
  refine he_top (nI (i + 2)) (nI_add i 2) ?_
  refine he_sld hx hb hX hbl hbA hS (i + 2) rfl (by omega) (by omega) (xs (i + 2)) rfl dL_law_389 ?_
  refine he_ci (wc := ([(x0, .inr (9, fx_q_4)), (m0, .inr (10, fm_q_4)), (aL g o0 1 fo_372)] ++ (Rc_q_4 ++ Rm_q_4))) (wr := []) (va_runV (As := [.int (xs (i + 1)), .int (xs (i + 2))]) (rest := []) ⟨hx, hb, hml, hown, hts⟩ (il_mI (j_wall l g m0 S t _ (xs (i + 1)) (xs (i + 2)) hm) hc H.size) (cwV 2 hts gL_law_X11_wall rfl rfl rfl (by decide +kernel) ⟨Nat.le_of_ble_eq_true rfl, Nat.le_of_ble_eq_true rfl⟩) (he_preV (wc := ([(x0, .inr (9, fx_q_4)), (m0, .inr (10, fm_q_4)), (aL g o0 1 fo_372)] ++ (Rc_q_4 ++ Rm_q_4))) hK hP hD hS hA hE (List.range (([(x0, .inr (9, fx_q_4)), (m0, .inr (10, fm_q_4)), (aL g o0 1 fo_372)] ++ (Rc_q_4 ++ Rm_q_4)) : va_W).length) (he_all _) (he_allnd _) 1 rfl rfl) rfl rfl hl.1 rfl (lv_room (Nat.le_of_ble_eq_true rfl)) dL_law_390 ⟨(by show 1000 + 4 * i + 1 + 0 ≤ 601024; omega), (by show 100000 + 700 * i + 6 + 0 ≤ 7293034; omega)⟩) hP hD hS hA (List.range (([(x0, .inr (9, fx_q_4)), (m0, .inr (10, fm_q_4)), (aL g o0 1 fo_372)] ++ (Rc_q_4 ++ Rm_q_4)) : va_W).length) [] (he_all _) rfl rfl (fun _ h9 => absurd h9 List.not_mem_nil) (fun r_5 u_6 H locs hu_7 hP hD hS => ?_)
  obtain ⟨t_390, hI9, ht390, hm390⟩ := hu_7
  obtain ⟨fx_q_8, fm_q_8, Rc_q_8, Rm_q_8, rfl, hc, hm⟩ := hI9
  have hP : va_P g.1 vwCl ([(x0, .inr (9, fx_q_8)), (m0, .inr (10, fm_q_8)), (aL g o0 1 fo_372)] ++ (Rc_q_8 ++ Rm_q_8)) H := hP
  have hD : va_D (lw_A s) ([(x0, .inr (9, fx_q_8)), (m0, .inr (10, fm_q_8)), (aL g o0 1 fo_372)] ++ (Rc_q_8 ++ Rm_q_8)) := hD
  refine lv_istore (lv' := [(6, .int r_5), (5, .int r_1), (0, .ref b), (1, .ref x0), (2, .ref m0), (3, .ref o0), (4, .int (nI i))]) hx hb dL_law_393 hl (by decide) rfl (fun ls hl => ?_)
  refine lv_goto (tgt := 1341) hx hb dL_law_395 (by decide) ?_
  refine W.widen (k := 1000 + 4 * (i + 6)) (n := 100000 + 700 * (i + 6)) (by show 1000 + 4 * i + 1 + 0 ≤ 1000 + 4 * (i + 6); omega) (by show 100000 + 700 * i + 6 + 0 ≤ 100000 + 700 * (i + 6); omega) ?_
  exact kk ((sp_wall S (xs (i + 1)) (xs (i + 2))).2.2) t_390 fo_372 _ H locs ls (ok_wall _ _ hOk) ⟨_, _, _, _, rfl, hc, hm⟩ hP hD hS (lv_sub hl [2, 3, 4, 5, 6] rfl)
set_option maxHeartbeats 8000000 in
set_option maxRecDepth 100000 in
theorem lc_rule {p : Program} {e : Env} {s : State} {m : MethodId} {below : List Frame} {meth : Method} {c : Code} {Q : State → Prop} (l : Launch) (hlt : l.stackTraces = false) (g : he_G) {b Ln : Nat} {xs : Nat → Int32} (C0 : lw_C p s m meth c b Ln xs g) (i : Nat) (hi : i + 6 ≤ Ln) (hL : Ln ≤ 3072) (x0 m0 o0 : Nat) (S : AbS) (t : Int32) (fo : Nat → Int64) (W9 : va_W) (hOk : okS S) (hI : IL g x0 m0 o0 S S t fo W9) {H : Heap} {locs : List Loc} {ls : Array Slot} (hP : va_P g.1 vwCl W9 H) (hD : va_D (lw_A s) W9) (hS : va_S (lw_A s) s.heap H locs) (hl : lv_has ls 8 [(0, .ref b), (1, .ref x0), (2, .ref m0), (3, .ref o0), (4, .int (nI i))]) (kk : ∀ (S2 : AbS) (t2 : Int32) (fo2 : Nat → Int64) (W2 : va_W) (H2 : Heap) (locs2 : List Loc) (ls2 : Array Slot), okS S2 → IL g x0 m0 o0 S2 S2 t2 fo2 W2 → va_P g.1 vwCl W2 H2 → va_D (lw_A s) W2 → va_S (lw_A s) s.heap H2 locs2 → lv_has ls2 8 [(0, .ref b), (1, .ref x0), (2, .ref m0), (3, .ref o0), (4, .int (nI i))] → W p l e room_1 s m #[Value.ref b] below meth c H2 locs2 (1000 + 4 * (i + 6)) (100000 + 700 * (i + 6)) Q (F0 m 1341 ls2 [])) : W p l e room_1 s m #[Value.ref b] below meth c H locs (1000 + 4 * i) (100000 + 700 * i) Q (F0 m 398 ls []) := by
  obtain ⟨hx, hb, hr, hml, hown, hts, hX, hbl, hlk, hK, hE, hA, hbA, hNc⟩ := C0
  obtain ⟨fx, fm, Rc, Rm, rfl, hc, hm⟩ := hI
  refine lv_aload_n hx hb dL_law_398 rfl (lv_at hl 1 rfl) ?_
  refine lv_aload_n hx hb dL_law_399 rfl (lv_at hl 0 rfl) ?_
  refine lv_iload hx hb dL_law_400 (lv_at hl 4 rfl) ?_
  refine lv_iconst (v := 1) hx hb dL_law_402 (by decide) ?_
  refine lv_iadd hx hb dL_law_403 ?_
  refine he_top (nI (i + 1)) (nI_add i 1) ?_
  refine he_sld hx hb hX hbl hbA hS (i + 1) rfl (by omega) (by omega) (xs (i + 1)) rfl dL_law_404 ?_
  refine lv_aload_n hx hb dL_law_405 rfl (lv_at hl 0 rfl) ?_
  refine lv_iload hx hb dL_law_406 (lv_at hl 4 rfl) ?_
  refine lv_iconst (v := 2) hx hb dL_law_408 (by decide) ?_
  refine lv_iadd hx hb dL_law_409 ?_
  refine he_top (nI (i + 2)) (nI_add i 2) ?_
  refine he_sld hx hb hX hbl hbA hS (i + 2) rfl (by omega) (by omega) (xs (i + 2)) rfl dL_law_410 ?_
  refine lv_aload_n hx hb dL_law_411 rfl (lv_at hl 3 rfl) ?_
  refine he_ci (wc := ([(x0, .inr (9, fx)), (m0, .inr (10, fm)), (aL g o0 1 fo)] ++ (Rc ++ Rm))) (wr := []) (vx_runSW (As := [.ref x0, .int (xs (i + 1)), .int (xs (i + 2)), .ref o0]) (rest := []) ⟨hx, hb, hml, hown, hts⟩ (w_rule l hlt g x0 m0 o0 S S t fo _ (xs (i + 1)) (xs (i + 2)) ⟨_, _, _, _, rfl, hc, hm⟩ H.size) (vx_cwSW 4 hts gL_law_L_rule rfl rfl rfl (by decide +kernel) ⟨Nat.le_of_ble_eq_true rfl, Nat.le_of_ble_eq_true rfl⟩) (he_preS (wc := ([(x0, .inr (9, fx)), (m0, .inr (10, fm)), (aL g o0 1 fo)] ++ (Rc ++ Rm))) hK hP hD hS hA hE (List.range (([(x0, .inr (9, fx)), (m0, .inr (10, fm)), (aL g o0 1 fo)] ++ (Rc ++ Rm)) : va_W).length) (he_all _) (he_allnd _)) rfl rfl hl.1 rfl (lv_room (Nat.le_of_ble_eq_true rfl)) dL_law_412 ⟨(by show 1000 + 4 * i + 1 ≤ 601024; omega), (by show 100000 + 700 * i + 6 ≤ 7293034; omega)⟩) hP hD hS hA (List.range (([(x0, .inr (9, fx)), (m0, .inr (10, fm)), (aL g o0 1 fo)] ++ (Rc ++ Rm)) : va_W).length) [] (he_all _) rfl rfl (fun _ h9 => absurd h9 List.not_mem_nil) (fun r_1 u_2 H locs hu_3 hP hD hS => ?_)
  obtain ⟨fo_412, hI9, hr412, ho412⟩ := hu_3
  obtain ⟨fx_q_4, fm_q_4, Rc_q_4, Rm_q_4, rfl, hc, hm⟩ := hI9
  have hP : va_P g.1 vwCl ([(x0, .inr (9, fx_q_4)), (m0, .inr (10, fm_q_4)), (aL g o0 1 fo_412)] ++ (Rc_q_4 ++ Rm_q_4)) H := hP
  have hD : va_D (lw_A s) ([(x0, .inr (9, fx_q_4)), (m0, .inr (10, fm_q_4)), (aL g o0 1 fo_412)] ++ (Rc_q_4 ++ Rm_q_4)) := hD
  refine lv_istore (lv' := [(5, .int r_1), (0, .ref b), (1, .ref x0), (2, .ref m0), (3, .ref o0), (4, .int (nI i))]) hx hb dL_law_415 hl (by decide) rfl (fun ls hl => ?_)
  refine lv_aload_n hx hb dL_law_417 rfl (lv_at hl 3 rfl) ?_
  refine lv_aload_n hx hb dL_law_418 rfl (lv_at hl 1 rfl) ?_
  refine lv_iload hx hb dL_law_419 (lv_at hl 5 rfl) ?_
  refine lv_iconst (v := 1) hx hb dL_law_421 (by decide) ?_
  refine lv_iadd hx hb dL_law_422 ?_
  refine he_top (nI (i + 1)) (nI_add i 1) ?_
  refine he_sld hx hb hX hbl hbA hS (i + 1) rfl (by omega) (by omega) (xs (i + 1)) rfl dL_law_423 ?_
  refine lv_aload_n hx hb dL_law_424 rfl (lv_at hl 1 rfl) ?_
  refine lv_iload hx hb dL_law_425 (lv_at hl 5 rfl) ?_
  refine lv_iconst (v := 2) hx hb dL_law_427 (by decide) ?_
  refine lv_iadd hx hb dL_law_428 ?_
  refine he_top (nI (i + 2)) (nI_add i 2) ?_
  refine he_sld hx hb hX hbl hbA hS (i + 2) rfl (by omega) (by omega) (xs (i + 2)) rfl dL_law_429 ?_
  refine he_ci (wc := ([(x0, .inr (9, fx_q_4)), (m0, .inr (10, fm_q_4)), (aL g o0 1 fo_412)] ++ (Rc_q_4 ++ Rm_q_4))) (wr := []) (va_runV (As := [.int (xs (i + 1)), .int (xs (i + 2))]) (rest := []) ⟨hx, hb, hml, hown, hts⟩ (il_mI (j_rule l g m0 S t _ (xs (i + 1)) (xs (i + 2)) hm) hc H.size) (cwV 2 hts gL_law_X11_rule rfl rfl rfl (by decide +kernel) ⟨Nat.le_of_ble_eq_true rfl, Nat.le_of_ble_eq_true rfl⟩) (he_preV (wc := ([(x0, .inr (9, fx_q_4)), (m0, .inr (10, fm_q_4)), (aL g o0 1 fo_412)] ++ (Rc_q_4 ++ Rm_q_4))) hK hP hD hS hA hE (List.range (([(x0, .inr (9, fx_q_4)), (m0, .inr (10, fm_q_4)), (aL g o0 1 fo_412)] ++ (Rc_q_4 ++ Rm_q_4)) : va_W).length) (he_all _) (he_allnd _) 1 rfl rfl) rfl rfl hl.1 rfl (lv_room (Nat.le_of_ble_eq_true rfl)) dL_law_430 ⟨(by show 1000 + 4 * i + 1 + 0 ≤ 601024; omega), (by show 100000 + 700 * i + 6 + 0 ≤ 7293034; omega)⟩) hP hD hS hA (List.range (([(x0, .inr (9, fx_q_4)), (m0, .inr (10, fm_q_4)), (aL g o0 1 fo_412)] ++ (Rc_q_4 ++ Rm_q_4)) : va_W).length) [] (he_all _) rfl rfl (fun _ h9 => absurd h9 List.not_mem_nil) (fun r_5 u_6 H locs hu_7 hP hD hS => ?_)
  obtain ⟨t_430, hI9, ht430, hm430⟩ := hu_7
  obtain ⟨fx_q_8, fm_q_8, Rc_q_8, Rm_q_8, rfl, hc, hm⟩ := hI9
  have hP : va_P g.1 vwCl ([(x0, .inr (9, fx_q_8)), (m0, .inr (10, fm_q_8)), (aL g o0 1 fo_412)] ++ (Rc_q_8 ++ Rm_q_8)) H := hP
  have hD : va_D (lw_A s) ([(x0, .inr (9, fx_q_8)), (m0, .inr (10, fm_q_8)), (aL g o0 1 fo_412)] ++ (Rc_q_8 ++ Rm_q_8)) := hD
  refine lv_istore (lv' := [(6, .int r_5), (5, .int r_1), (0, .ref b), (1, .ref x0), (2, .ref m0), (3, .ref o0), (4, .int (nI i))]) hx hb dL_law_433 hl (by decide) rfl (fun ls hl => ?_)
  refine lv_goto (tgt := 1341) hx hb dL_law_435 (by decide) ?_
  refine W.widen (k := 1000 + 4 * (i + 6)) (n := 100000 + 700 * (i + 6)) (by show 1000 + 4 * i + 1 + 0 ≤ 1000 + 4 * (i + 6); omega) (by show 100000 + 700 * i + 6 + 0 ≤ 100000 + 700 * (i + 6); omega) ?_
  exact kk ((sp_rule S (xs (i + 1)) (xs (i + 2))).2.2) t_430 fo_412 _ H locs ls (ok_rule _ _ hOk) ⟨_, _, _, _, rfl, hc, hm⟩ hP hD hS (lv_sub hl [2, 3, 4, 5, 6] rfl)
set_option maxHeartbeats 8000000 in
set_option maxRecDepth 100000 in
theorem lc_wants {p : Program} {e : Env} {s : State} {m : MethodId} {below : List Frame} {meth : Method} {c : Code} {Q : State → Prop} (l : Launch) (hlt : l.stackTraces = false) (g : he_G) {b Ln : Nat} {xs : Nat → Int32} (C0 : lw_C p s m meth c b Ln xs g) (i : Nat) (hi : i + 6 ≤ Ln) (hL : Ln ≤ 3072) (x0 m0 o0 : Nat) (S : AbS) (t : Int32) (fo : Nat → Int64) (W9 : va_W) (hOk : okS S) (hI : IL g x0 m0 o0 S S t fo W9) {H : Heap} {locs : List Loc} {ls : Array Slot} (hP : va_P g.1 vwCl W9 H) (hD : va_D (lw_A s) W9) (hS : va_S (lw_A s) s.heap H locs) (hl : lv_has ls 8 [(0, .ref b), (1, .ref x0), (2, .ref m0), (3, .ref o0), (4, .int (nI i))]) (kk : ∀ (S2 : AbS) (t2 : Int32) (fo2 : Nat → Int64) (W2 : va_W) (H2 : Heap) (locs2 : List Loc) (ls2 : Array Slot), okS S2 → IL g x0 m0 o0 S2 S2 t2 fo2 W2 → va_P g.1 vwCl W2 H2 → va_D (lw_A s) W2 → va_S (lw_A s) s.heap H2 locs2 → lv_has ls2 8 [(0, .ref b), (1, .ref x0), (2, .ref m0), (3, .ref o0), (4, .int (nI i))] → W p l e room_1 s m #[Value.ref b] below meth c H2 locs2 (1000 + 4 * (i + 6)) (100000 + 700 * (i + 6)) Q (F0 m 1341 ls2 [])) : W p l e room_1 s m #[Value.ref b] below meth c H locs (1000 + 4 * i) (100000 + 700 * i) Q (F0 m 438 ls []) := by
  obtain ⟨hx, hb, hr, hml, hown, hts, hX, hbl, hlk, hK, hE, hA, hbA, hNc⟩ := C0
  obtain ⟨fx, fm, Rc, Rm, rfl, hc, hm⟩ := hI
  refine lv_aload_n hx hb dL_law_438 rfl (lv_at hl 1 rfl) ?_
  refine lv_aload_n hx hb dL_law_439 rfl (lv_at hl 0 rfl) ?_
  refine lv_iload hx hb dL_law_440 (lv_at hl 4 rfl) ?_
  refine lv_iconst (v := 1) hx hb dL_law_442 (by decide) ?_
  refine lv_iadd hx hb dL_law_443 ?_
  refine he_top (nI (i + 1)) (nI_add i 1) ?_
  refine he_sld hx hb hX hbl hbA hS (i + 1) rfl (by omega) (by omega) (xs (i + 1)) rfl dL_law_444 ?_
  refine lv_aload_n hx hb dL_law_445 rfl (lv_at hl 0 rfl) ?_
  refine lv_iload hx hb dL_law_446 (lv_at hl 4 rfl) ?_
  refine lv_iconst (v := 2) hx hb dL_law_448 (by decide) ?_
  refine lv_iadd hx hb dL_law_449 ?_
  refine he_top (nI (i + 2)) (nI_add i 2) ?_
  refine he_sld hx hb hX hbl hbA hS (i + 2) rfl (by omega) (by omega) (xs (i + 2)) rfl dL_law_450 ?_
  refine lv_aload_n hx hb dL_law_451 rfl (lv_at hl 3 rfl) ?_
  refine he_ci (wc := ([(x0, .inr (9, fx)), (m0, .inr (10, fm)), (aL g o0 1 fo)] ++ (Rc ++ Rm))) (wr := []) (vx_runSW (As := [.ref x0, .int (xs (i + 1)), .int (xs (i + 2)), .ref o0]) (rest := []) ⟨hx, hb, hml, hown, hts⟩ (w_wants l hlt g x0 m0 o0 S S t fo _ (xs (i + 1)) (xs (i + 2)) ⟨_, _, _, _, rfl, hc, hm⟩ H.size) (vx_cwSW 4 hts gL_law_L_wants rfl rfl rfl (by decide +kernel) ⟨Nat.le_of_ble_eq_true rfl, Nat.le_of_ble_eq_true rfl⟩) (he_preS (wc := ([(x0, .inr (9, fx)), (m0, .inr (10, fm)), (aL g o0 1 fo)] ++ (Rc ++ Rm))) hK hP hD hS hA hE (List.range (([(x0, .inr (9, fx)), (m0, .inr (10, fm)), (aL g o0 1 fo)] ++ (Rc ++ Rm)) : va_W).length) (he_all _) (he_allnd _)) rfl rfl hl.1 rfl (lv_room (Nat.le_of_ble_eq_true rfl)) dL_law_452 ⟨(by show 1000 + 4 * i + 1 ≤ 601024; omega), (by show 100000 + 700 * i + 6 ≤ 7293034; omega)⟩) hP hD hS hA (List.range (([(x0, .inr (9, fx)), (m0, .inr (10, fm)), (aL g o0 1 fo)] ++ (Rc ++ Rm)) : va_W).length) [] (he_all _) rfl rfl (fun _ h9 => absurd h9 List.not_mem_nil) (fun r_1 u_2 H locs hu_3 hP hD hS => ?_)
  obtain ⟨fo_452, hI9, hr452, ho452⟩ := hu_3
  obtain ⟨fx_q_4, fm_q_4, Rc_q_4, Rm_q_4, rfl, hc, hm⟩ := hI9
  have hP : va_P g.1 vwCl ([(x0, .inr (9, fx_q_4)), (m0, .inr (10, fm_q_4)), (aL g o0 1 fo_452)] ++ (Rc_q_4 ++ Rm_q_4)) H := hP
  have hD : va_D (lw_A s) ([(x0, .inr (9, fx_q_4)), (m0, .inr (10, fm_q_4)), (aL g o0 1 fo_452)] ++ (Rc_q_4 ++ Rm_q_4)) := hD
  refine lv_istore (lv' := [(5, .int r_1), (0, .ref b), (1, .ref x0), (2, .ref m0), (3, .ref o0), (4, .int (nI i))]) hx hb dL_law_455 hl (by decide) rfl (fun ls hl => ?_)
  refine lv_aload_n hx hb dL_law_457 rfl (lv_at hl 3 rfl) ?_
  refine lv_aload_n hx hb dL_law_458 rfl (lv_at hl 1 rfl) ?_
  refine lv_iload hx hb dL_law_459 (lv_at hl 5 rfl) ?_
  refine lv_iconst (v := 1) hx hb dL_law_461 (by decide) ?_
  refine lv_iadd hx hb dL_law_462 ?_
  refine he_top (nI (i + 1)) (nI_add i 1) ?_
  refine he_sld hx hb hX hbl hbA hS (i + 1) rfl (by omega) (by omega) (xs (i + 1)) rfl dL_law_463 ?_
  refine lv_aload_n hx hb dL_law_464 rfl (lv_at hl 1 rfl) ?_
  refine lv_iload hx hb dL_law_465 (lv_at hl 5 rfl) ?_
  refine lv_iconst (v := 2) hx hb dL_law_467 (by decide) ?_
  refine lv_iadd hx hb dL_law_468 ?_
  refine he_top (nI (i + 2)) (nI_add i 2) ?_
  refine he_sld hx hb hX hbl hbA hS (i + 2) rfl (by omega) (by omega) (xs (i + 2)) rfl dL_law_469 ?_
  refine he_ci (wc := ([(x0, .inr (9, fx_q_4)), (m0, .inr (10, fm_q_4)), (aL g o0 1 fo_452)] ++ (Rc_q_4 ++ Rm_q_4))) (wr := []) (va_runV (As := [.int (xs (i + 1)), .int (xs (i + 2))]) (rest := []) ⟨hx, hb, hml, hown, hts⟩ (il_mI (j_wants l g m0 S t _ (xs (i + 1)) (xs (i + 2)) hm) hc H.size) (cwV 2 hts gL_law_X11_wants rfl rfl rfl (by decide +kernel) ⟨Nat.le_of_ble_eq_true rfl, Nat.le_of_ble_eq_true rfl⟩) (he_preV (wc := ([(x0, .inr (9, fx_q_4)), (m0, .inr (10, fm_q_4)), (aL g o0 1 fo_452)] ++ (Rc_q_4 ++ Rm_q_4))) hK hP hD hS hA hE (List.range (([(x0, .inr (9, fx_q_4)), (m0, .inr (10, fm_q_4)), (aL g o0 1 fo_452)] ++ (Rc_q_4 ++ Rm_q_4)) : va_W).length) (he_all _) (he_allnd _) 1 rfl rfl) rfl rfl hl.1 rfl (lv_room (Nat.le_of_ble_eq_true rfl)) dL_law_470 ⟨(by show 1000 + 4 * i + 1 + 0 ≤ 601024; omega), (by show 100000 + 700 * i + 6 + 0 ≤ 7293034; omega)⟩) hP hD hS hA (List.range (([(x0, .inr (9, fx_q_4)), (m0, .inr (10, fm_q_4)), (aL g o0 1 fo_452)] ++ (Rc_q_4 ++ Rm_q_4)) : va_W).length) [] (he_all _) rfl rfl (fun _ h9 => absurd h9 List.not_mem_nil) (fun r_5 u_6 H locs hu_7 hP hD hS => ?_)
  obtain ⟨t_470, hI9, ht470, hm470⟩ := hu_7
  obtain ⟨fx_q_8, fm_q_8, Rc_q_8, Rm_q_8, rfl, hc, hm⟩ := hI9
  have hP : va_P g.1 vwCl ([(x0, .inr (9, fx_q_8)), (m0, .inr (10, fm_q_8)), (aL g o0 1 fo_452)] ++ (Rc_q_8 ++ Rm_q_8)) H := hP
  have hD : va_D (lw_A s) ([(x0, .inr (9, fx_q_8)), (m0, .inr (10, fm_q_8)), (aL g o0 1 fo_452)] ++ (Rc_q_8 ++ Rm_q_8)) := hD
  refine lv_istore (lv' := [(6, .int r_5), (5, .int r_1), (0, .ref b), (1, .ref x0), (2, .ref m0), (3, .ref o0), (4, .int (nI i))]) hx hb dL_law_473 hl (by decide) rfl (fun ls hl => ?_)
  refine lv_goto (tgt := 1341) hx hb dL_law_475 (by decide) ?_
  refine W.widen (k := 1000 + 4 * (i + 6)) (n := 100000 + 700 * (i + 6)) (by show 1000 + 4 * i + 1 + 0 ≤ 1000 + 4 * (i + 6); omega) (by show 100000 + 700 * i + 6 + 0 ≤ 100000 + 700 * (i + 6); omega) ?_
  exact kk ((sp_wants S (xs (i + 1)) (xs (i + 2))).2.2) t_470 fo_452 _ H locs ls (ok_wants _ _ hOk) ⟨_, _, _, _, rfl, hc, hm⟩ hP hD hS (lv_sub hl [2, 3, 4, 5, 6] rfl)
set_option maxHeartbeats 8000000 in
set_option maxRecDepth 100000 in
theorem lc_sign {p : Program} {e : Env} {s : State} {m : MethodId} {below : List Frame} {meth : Method} {c : Code} {Q : State → Prop} (l : Launch) (hlt : l.stackTraces = false) (g : he_G) {b Ln : Nat} {xs : Nat → Int32} (C0 : lw_C p s m meth c b Ln xs g) (i : Nat) (hi : i + 6 ≤ Ln) (hL : Ln ≤ 3072) (x0 m0 o0 : Nat) (S : AbS) (t : Int32) (fo : Nat → Int64) (W9 : va_W) (hOk : okS S) (hI : IL g x0 m0 o0 S S t fo W9) {H : Heap} {locs : List Loc} {ls : Array Slot} (hP : va_P g.1 vwCl W9 H) (hD : va_D (lw_A s) W9) (hS : va_S (lw_A s) s.heap H locs) (hl : lv_has ls 8 [(0, .ref b), (1, .ref x0), (2, .ref m0), (3, .ref o0), (4, .int (nI i))]) (kk : ∀ (S2 : AbS) (t2 : Int32) (fo2 : Nat → Int64) (W2 : va_W) (H2 : Heap) (locs2 : List Loc) (ls2 : Array Slot), okS S2 → IL g x0 m0 o0 S2 S2 t2 fo2 W2 → va_P g.1 vwCl W2 H2 → va_D (lw_A s) W2 → va_S (lw_A s) s.heap H2 locs2 → lv_has ls2 8 [(0, .ref b), (1, .ref x0), (2, .ref m0), (3, .ref o0), (4, .int (nI i))] → W p l e room_1 s m #[Value.ref b] below meth c H2 locs2 (1000 + 4 * (i + 6)) (100000 + 700 * (i + 6)) Q (F0 m 1341 ls2 [])) : W p l e room_1 s m #[Value.ref b] below meth c H locs (1000 + 4 * i) (100000 + 700 * i) Q (F0 m 478 ls []) := by
  obtain ⟨hx, hb, hr, hml, hown, hts, hX, hbl, hlk, hK, hE, hA, hbA, hNc⟩ := C0
  obtain ⟨fx, fm, Rc, Rm, rfl, hc, hm⟩ := hI
  refine lv_aload_n hx hb dL_law_478 rfl (lv_at hl 1 rfl) ?_
  refine lv_aload_n hx hb dL_law_479 rfl (lv_at hl 0 rfl) ?_
  refine lv_iload hx hb dL_law_480 (lv_at hl 4 rfl) ?_
  refine lv_iconst (v := 1) hx hb dL_law_482 (by decide) ?_
  refine lv_iadd hx hb dL_law_483 ?_
  refine he_top (nI (i + 1)) (nI_add i 1) ?_
  refine he_sld hx hb hX hbl hbA hS (i + 1) rfl (by omega) (by omega) (xs (i + 1)) rfl dL_law_484 ?_
  refine lv_aload_n hx hb dL_law_485 rfl (lv_at hl 3 rfl) ?_
  refine he_ci (wc := ([(x0, .inr (9, fx)), (m0, .inr (10, fm)), (aL g o0 1 fo)] ++ (Rc ++ Rm))) (wr := []) (vx_runSW (As := [.ref x0, .int (xs (i + 1)), .ref o0]) (rest := []) ⟨hx, hb, hml, hown, hts⟩ (w_sign l hlt g x0 m0 o0 S S t fo _ (xs (i + 1)) ⟨_, _, _, _, rfl, hc, hm⟩ H.size) (vx_cwSW 3 hts gL_law_L_sign rfl rfl rfl (by decide +kernel) ⟨Nat.le_of_ble_eq_true rfl, Nat.le_of_ble_eq_true rfl⟩) (he_preS (wc := ([(x0, .inr (9, fx)), (m0, .inr (10, fm)), (aL g o0 1 fo)] ++ (Rc ++ Rm))) hK hP hD hS hA hE (List.range (([(x0, .inr (9, fx)), (m0, .inr (10, fm)), (aL g o0 1 fo)] ++ (Rc ++ Rm)) : va_W).length) (he_all _) (he_allnd _)) rfl rfl hl.1 rfl (lv_room (Nat.le_of_ble_eq_true rfl)) dL_law_486 ⟨(by show 1000 + 4 * i + 1 ≤ 601024; omega), (by show 100000 + 700 * i + 6 ≤ 7293034; omega)⟩) hP hD hS hA (List.range (([(x0, .inr (9, fx)), (m0, .inr (10, fm)), (aL g o0 1 fo)] ++ (Rc ++ Rm)) : va_W).length) [] (he_all _) rfl rfl (fun _ h9 => absurd h9 List.not_mem_nil) (fun r_1 u_2 H locs hu_3 hP hD hS => ?_)
  obtain ⟨fo_486, hI9, hr486, ho486⟩ := hu_3
  obtain ⟨fx_q_4, fm_q_4, Rc_q_4, Rm_q_4, rfl, hc, hm⟩ := hI9
  have hP : va_P g.1 vwCl ([(x0, .inr (9, fx_q_4)), (m0, .inr (10, fm_q_4)), (aL g o0 1 fo_486)] ++ (Rc_q_4 ++ Rm_q_4)) H := hP
  have hD : va_D (lw_A s) ([(x0, .inr (9, fx_q_4)), (m0, .inr (10, fm_q_4)), (aL g o0 1 fo_486)] ++ (Rc_q_4 ++ Rm_q_4)) := hD
  refine lv_istore (lv' := [(5, .int r_1), (0, .ref b), (1, .ref x0), (2, .ref m0), (3, .ref o0), (4, .int (nI i))]) hx hb dL_law_489 hl (by decide) rfl (fun ls hl => ?_)
  refine lv_aload_n hx hb dL_law_491 rfl (lv_at hl 3 rfl) ?_
  refine lv_aload_n hx hb dL_law_492 rfl (lv_at hl 1 rfl) ?_
  refine lv_iload hx hb dL_law_493 (lv_at hl 5 rfl) ?_
  refine lv_iconst (v := 1) hx hb dL_law_495 (by decide) ?_
  refine lv_iadd hx hb dL_law_496 ?_
  refine he_top (nI (i + 1)) (nI_add i 1) ?_
  refine he_sld hx hb hX hbl hbA hS (i + 1) rfl (by omega) (by omega) (xs (i + 1)) rfl dL_law_497 ?_
  refine he_ci (wc := ([(x0, .inr (9, fx_q_4)), (m0, .inr (10, fm_q_4)), (aL g o0 1 fo_486)] ++ (Rc_q_4 ++ Rm_q_4))) (wr := []) (va_runV (As := [.int (xs (i + 1))]) (rest := []) ⟨hx, hb, hml, hown, hts⟩ (il_mI (j_sign l g m0 S t _ (xs (i + 1)) hm) hc H.size) (cwV 1 hts gL_law_X11_sign rfl rfl rfl (by decide +kernel) ⟨Nat.le_of_ble_eq_true rfl, Nat.le_of_ble_eq_true rfl⟩) (he_preV (wc := ([(x0, .inr (9, fx_q_4)), (m0, .inr (10, fm_q_4)), (aL g o0 1 fo_486)] ++ (Rc_q_4 ++ Rm_q_4))) hK hP hD hS hA hE (List.range (([(x0, .inr (9, fx_q_4)), (m0, .inr (10, fm_q_4)), (aL g o0 1 fo_486)] ++ (Rc_q_4 ++ Rm_q_4)) : va_W).length) (he_all _) (he_allnd _) 1 rfl rfl) rfl rfl hl.1 rfl (lv_room (Nat.le_of_ble_eq_true rfl)) dL_law_498 ⟨(by show 1000 + 4 * i + 1 + 0 ≤ 601024; omega), (by show 100000 + 700 * i + 6 + 0 ≤ 7293034; omega)⟩) hP hD hS hA (List.range (([(x0, .inr (9, fx_q_4)), (m0, .inr (10, fm_q_4)), (aL g o0 1 fo_486)] ++ (Rc_q_4 ++ Rm_q_4)) : va_W).length) [] (he_all _) rfl rfl (fun _ h9 => absurd h9 List.not_mem_nil) (fun r_5 u_6 H locs hu_7 hP hD hS => ?_)
  obtain ⟨t_498, hI9, ht498, hm498⟩ := hu_7
  obtain ⟨fx_q_8, fm_q_8, Rc_q_8, Rm_q_8, rfl, hc, hm⟩ := hI9
  have hP : va_P g.1 vwCl ([(x0, .inr (9, fx_q_8)), (m0, .inr (10, fm_q_8)), (aL g o0 1 fo_486)] ++ (Rc_q_8 ++ Rm_q_8)) H := hP
  have hD : va_D (lw_A s) ([(x0, .inr (9, fx_q_8)), (m0, .inr (10, fm_q_8)), (aL g o0 1 fo_486)] ++ (Rc_q_8 ++ Rm_q_8)) := hD
  refine lv_istore (lv' := [(6, .int r_5), (5, .int r_1), (0, .ref b), (1, .ref x0), (2, .ref m0), (3, .ref o0), (4, .int (nI i))]) hx hb dL_law_501 hl (by decide) rfl (fun ls hl => ?_)
  refine lv_goto (tgt := 1341) hx hb dL_law_503 (by decide) ?_
  refine W.widen (k := 1000 + 4 * (i + 6)) (n := 100000 + 700 * (i + 6)) (by show 1000 + 4 * i + 1 + 0 ≤ 1000 + 4 * (i + 6); omega) (by show 100000 + 700 * i + 6 + 0 ≤ 100000 + 700 * (i + 6); omega) ?_
  exact kk ((sp_sign S (xs (i + 1))).2.2) t_498 fo_486 _ H locs ls (ok_sign _ hOk) ⟨_, _, _, _, rfl, hc, hm⟩ hP hD hS (lv_sub hl [2, 3, 4, 5, 6] rfl)
set_option maxHeartbeats 8000000 in
set_option maxRecDepth 100000 in
theorem lc_months {p : Program} {e : Env} {s : State} {m : MethodId} {below : List Frame} {meth : Method} {c : Code} {Q : State → Prop} (l : Launch) (hlt : l.stackTraces = false) (g : he_G) {b Ln : Nat} {xs : Nat → Int32} (C0 : lw_C p s m meth c b Ln xs g) (i : Nat) (hi : i + 6 ≤ Ln) (hL : Ln ≤ 3072) (x0 m0 o0 : Nat) (S : AbS) (t : Int32) (fo : Nat → Int64) (W9 : va_W) (hOk : okS S) (hI : IL g x0 m0 o0 S S t fo W9) {H : Heap} {locs : List Loc} {ls : Array Slot} (hP : va_P g.1 vwCl W9 H) (hD : va_D (lw_A s) W9) (hS : va_S (lw_A s) s.heap H locs) (hl : lv_has ls 8 [(0, .ref b), (1, .ref x0), (2, .ref m0), (3, .ref o0), (4, .int (nI i))]) (kk : ∀ (S2 : AbS) (t2 : Int32) (fo2 : Nat → Int64) (W2 : va_W) (H2 : Heap) (locs2 : List Loc) (ls2 : Array Slot), okS S2 → IL g x0 m0 o0 S2 S2 t2 fo2 W2 → va_P g.1 vwCl W2 H2 → va_D (lw_A s) W2 → va_S (lw_A s) s.heap H2 locs2 → lv_has ls2 8 [(0, .ref b), (1, .ref x0), (2, .ref m0), (3, .ref o0), (4, .int (nI i))] → W p l e room_1 s m #[Value.ref b] below meth c H2 locs2 (1000 + 4 * (i + 6)) (100000 + 700 * (i + 6)) Q (F0 m 1341 ls2 [])) : W p l e room_1 s m #[Value.ref b] below meth c H locs (1000 + 4 * i) (100000 + 700 * i) Q (F0 m 506 ls []) := by
  obtain ⟨hx, hb, hr, hml, hown, hts, hX, hbl, hlk, hK, hE, hA, hbA, hNc⟩ := C0
  obtain ⟨fx, fm, Rc, Rm, rfl, hc, hm⟩ := hI
  refine lv_aload_n hx hb dL_law_506 rfl (lv_at hl 1 rfl) ?_
  refine lv_aload_n hx hb dL_law_507 rfl (lv_at hl 0 rfl) ?_
  refine lv_iload hx hb dL_law_508 (lv_at hl 4 rfl) ?_
  refine lv_iconst (v := 1) hx hb dL_law_510 (by decide) ?_
  refine lv_iadd hx hb dL_law_511 ?_
  refine he_top (nI (i + 1)) (nI_add i 1) ?_
  refine he_sld hx hb hX hbl hbA hS (i + 1) rfl (by omega) (by omega) (xs (i + 1)) rfl dL_law_512 ?_
  refine lv_aload_n hx hb dL_law_513 rfl (lv_at hl 3 rfl) ?_
  refine he_ci (wc := ([(x0, .inr (9, fx)), (m0, .inr (10, fm)), (aL g o0 1 fo)] ++ (Rc ++ Rm))) (wr := []) (vx_runSW (As := [.ref x0, .int (xs (i + 1)), .ref o0]) (rest := []) ⟨hx, hb, hml, hown, hts⟩ (w_months l hlt g x0 m0 o0 S S t fo _ (xs (i + 1)) hOk ⟨_, _, _, _, rfl, hc, hm⟩ H.size) (vx_cwSW 3 hts gL_law_L_months rfl rfl rfl (by decide +kernel) ⟨Nat.le_of_ble_eq_true rfl, Nat.le_of_ble_eq_true rfl⟩) (he_preS (wc := ([(x0, .inr (9, fx)), (m0, .inr (10, fm)), (aL g o0 1 fo)] ++ (Rc ++ Rm))) hK hP hD hS hA hE (List.range (([(x0, .inr (9, fx)), (m0, .inr (10, fm)), (aL g o0 1 fo)] ++ (Rc ++ Rm)) : va_W).length) (he_all _) (he_allnd _)) rfl rfl hl.1 rfl (lv_room (Nat.le_of_ble_eq_true rfl)) dL_law_514 ⟨(by show 1000 + 4 * i + 1 ≤ 601024; omega), (by show 100000 + 700 * i + 6 ≤ 7293034; omega)⟩) hP hD hS hA (List.range (([(x0, .inr (9, fx)), (m0, .inr (10, fm)), (aL g o0 1 fo)] ++ (Rc ++ Rm)) : va_W).length) [] (he_all _) rfl rfl (fun _ h9 => absurd h9 List.not_mem_nil) (fun r_1 u_2 H locs hu_3 hP hD hS => ?_)
  obtain ⟨fo_514, hI9, hr514, ho514⟩ := hu_3
  obtain ⟨fx_q_4, fm_q_4, Rc_q_4, Rm_q_4, rfl, hc, hm⟩ := hI9
  have hP : va_P g.1 vwCl ([(x0, .inr (9, fx_q_4)), (m0, .inr (10, fm_q_4)), (aL g o0 1 fo_514)] ++ (Rc_q_4 ++ Rm_q_4)) H := hP
  have hD : va_D (lw_A s) ([(x0, .inr (9, fx_q_4)), (m0, .inr (10, fm_q_4)), (aL g o0 1 fo_514)] ++ (Rc_q_4 ++ Rm_q_4)) := hD
  refine lv_istore (lv' := [(5, .int r_1), (0, .ref b), (1, .ref x0), (2, .ref m0), (3, .ref o0), (4, .int (nI i))]) hx hb dL_law_517 hl (by decide) rfl (fun ls hl => ?_)
  refine lv_aload_n hx hb dL_law_519 rfl (lv_at hl 3 rfl) ?_
  refine lv_aload_n hx hb dL_law_520 rfl (lv_at hl 1 rfl) ?_
  refine lv_iload hx hb dL_law_521 (lv_at hl 5 rfl) ?_
  refine lv_iconst (v := 1) hx hb dL_law_523 (by decide) ?_
  refine lv_iadd hx hb dL_law_524 ?_
  refine he_top (nI (i + 1)) (nI_add i 1) ?_
  refine he_sld hx hb hX hbl hbA hS (i + 1) rfl (by omega) (by omega) (xs (i + 1)) rfl dL_law_525 ?_
  refine he_ci (wc := ([(x0, .inr (9, fx_q_4)), (m0, .inr (10, fm_q_4)), (aL g o0 1 fo_514)] ++ (Rc_q_4 ++ Rm_q_4))) (wr := []) (va_runV (As := [.int (xs (i + 1))]) (rest := []) ⟨hx, hb, hml, hown, hts⟩ (il_mI (j_months l g m0 S t _ (xs (i + 1)) hOk hm) hc H.size) (cwV 1 hts gL_law_X11_months rfl rfl rfl (by decide +kernel) ⟨Nat.le_of_ble_eq_true rfl, Nat.le_of_ble_eq_true rfl⟩) (he_preV (wc := ([(x0, .inr (9, fx_q_4)), (m0, .inr (10, fm_q_4)), (aL g o0 1 fo_514)] ++ (Rc_q_4 ++ Rm_q_4))) hK hP hD hS hA hE (List.range (([(x0, .inr (9, fx_q_4)), (m0, .inr (10, fm_q_4)), (aL g o0 1 fo_514)] ++ (Rc_q_4 ++ Rm_q_4)) : va_W).length) (he_all _) (he_allnd _) 1 rfl rfl) rfl rfl hl.1 rfl (lv_room (Nat.le_of_ble_eq_true rfl)) dL_law_526 ⟨(by show 1000 + 4 * i + 1 + 0 ≤ 601024; omega), (by show 100000 + 700 * i + 6 + 0 ≤ 7293034; omega)⟩) hP hD hS hA (List.range (([(x0, .inr (9, fx_q_4)), (m0, .inr (10, fm_q_4)), (aL g o0 1 fo_514)] ++ (Rc_q_4 ++ Rm_q_4)) : va_W).length) [] (he_all _) rfl rfl (fun _ h9 => absurd h9 List.not_mem_nil) (fun r_5 u_6 H locs hu_7 hP hD hS => ?_)
  obtain ⟨t_526, hI9, ht526, hm526⟩ := hu_7
  obtain ⟨fx_q_8, fm_q_8, Rc_q_8, Rm_q_8, rfl, hc, hm⟩ := hI9
  have hP : va_P g.1 vwCl ([(x0, .inr (9, fx_q_8)), (m0, .inr (10, fm_q_8)), (aL g o0 1 fo_514)] ++ (Rc_q_8 ++ Rm_q_8)) H := hP
  have hD : va_D (lw_A s) ([(x0, .inr (9, fx_q_8)), (m0, .inr (10, fm_q_8)), (aL g o0 1 fo_514)] ++ (Rc_q_8 ++ Rm_q_8)) := hD
  refine lv_istore (lv' := [(6, .int r_5), (5, .int r_1), (0, .ref b), (1, .ref x0), (2, .ref m0), (3, .ref o0), (4, .int (nI i))]) hx hb dL_law_529 hl (by decide) rfl (fun ls hl => ?_)
  refine lv_goto (tgt := 1341) hx hb dL_law_531 (by decide) ?_
  refine W.widen (k := 1000 + 4 * (i + 6)) (n := 100000 + 700 * (i + 6)) (by show 1000 + 4 * i + 1 + 0 ≤ 1000 + 4 * (i + 6); omega) (by show 100000 + 700 * i + 6 + 0 ≤ 100000 + 700 * (i + 6); omega) ?_
  exact kk ((sp_months S (xs (i + 1))).2.2) t_526 fo_514 _ H locs ls (ok_months _ hOk) ⟨_, _, _, _, rfl, hc, hm⟩ hP hD hS (lv_sub hl [2, 3, 4, 5, 6] rfl)
end
