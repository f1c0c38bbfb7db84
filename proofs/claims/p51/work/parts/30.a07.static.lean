theorem dL_law_1382 {nm : String} : pm_dec (mL_law nm) 1382 (.iconst 0, 1) 1383 := ⟨(by decide +kernel : decode code 1382 = .ok (.iconst 0, 1)), rfl⟩
theorem dL_law_1383 {nm : String} : pm_dec (mL_law nm) 1383 (.invokevirtual 149, 3) 1386 := ⟨(by decide +kernel : decode code 1383 = .ok (.invokevirtual 149, 3)), rfl⟩
theorem dL_law_1386 {nm : String} : pm_dec (mL_law nm) 1386 (.pop, 1) 1387 := ⟨(by decide +kernel : decode code 1386 = .ok (.pop, 1)), rfl⟩
theorem dL_law_1387 {nm : String} : pm_dec (mL_law nm) 1387 (.aload_n 2, 1) 1388 := ⟨(by decide +kernel : decode code 1387 = .ok (.aload_n 2, 1)), rfl⟩
theorem dL_law_1388 {nm : String} : pm_dec (mL_law nm) 1388 (.aload_n 0, 1) 1389 := ⟨(by decide +kernel : decode code 1388 = .ok (.aload_n 0, 1)), rfl⟩
theorem dL_law_1389 {nm : String} : pm_dec (mL_law nm) 1389 (.iload_n 3, 1) 1390 := ⟨(by decide +kernel : decode code 1389 = .ok (.iload_n 3, 1)), rfl⟩
theorem dL_law_1390 {nm : String} : pm_dec (mL_law nm) 1390 (.iconst 1, 1) 1391 := ⟨(by decide +kernel : decode code 1390 = .ok (.iconst 1, 1)), rfl⟩
theorem dL_law_1391 {nm : String} : pm_dec (mL_law nm) 1391 (.iadd, 1) 1392 := ⟨(by decide +kernel : decode code 1391 = .ok (.iadd, 1)), rfl⟩
theorem dL_law_1392 {nm : String} : pm_dec (mL_law nm) 1392 (.iaload, 1) 1393 := ⟨(by decide +kernel : decode code 1392 = .ok (.iaload, 1)), rfl⟩
theorem dL_law_1393 {nm : String} : pm_dec (mL_law nm) 1393 (.aload_n 0, 1) 1394 := ⟨(by decide +kernel : decode code 1393 = .ok (.aload_n 0, 1)), rfl⟩
theorem dL_law_1394 {nm : String} : pm_dec (mL_law nm) 1394 (.iload_n 3, 1) 1395 := ⟨(by decide +kernel : decode code 1394 = .ok (.iload_n 3, 1)), rfl⟩
theorem dL_law_1395 {nm : String} : pm_dec (mL_law nm) 1395 (.iconst 2, 1) 1396 := ⟨(by decide +kernel : decode code 1395 = .ok (.iconst 2, 1)), rfl⟩
theorem dL_law_1396 {nm : String} : pm_dec (mL_law nm) 1396 (.iadd, 1) 1397 := ⟨(by decide +kernel : decode code 1396 = .ok (.iadd, 1)), rfl⟩
theorem dL_law_1397 {nm : String} : pm_dec (mL_law nm) 1397 (.iaload, 1) 1398 := ⟨(by decide +kernel : decode code 1397 = .ok (.iaload, 1)), rfl⟩
theorem dL_law_1398 {nm : String} : pm_dec (mL_law nm) 1398 (.ifCond .eq 7, 3) 1401 := ⟨(by decide +kernel : decode code 1398 = .ok (.ifCond .eq 7, 3)), rfl⟩
theorem dL_law_1405 {nm : String} : pm_dec (mL_law nm) 1405 (.iconst 0, 1) 1406 := ⟨(by decide +kernel : decode code 1405 = .ok (.iconst 0, 1)), rfl⟩
theorem dL_law_1406 {nm : String} : pm_dec (mL_law nm) 1406 (.invokevirtual 153, 3) 1409 := ⟨(by decide +kernel : decode code 1406 = .ok (.invokevirtual 153, 3)), rfl⟩
theorem dL_law_1409 {nm : String} : pm_dec (mL_law nm) 1409 (.pop, 1) 1410 := ⟨(by decide +kernel : decode code 1409 = .ok (.pop, 1)), rfl⟩
theorem dL_law_1410 {nm : String} : pm_dec (mL_law nm) 1410 (.goto 695, 3) 1413 := ⟨(by decide +kernel : decode code 1410 = .ok (.goto 695, 3)), rfl⟩
theorem dL_law_1401 {nm : String} : pm_dec (mL_law nm) 1401 (.iconst 1, 1) 1402 := ⟨(by decide +kernel : decode code 1401 = .ok (.iconst 1, 1)), rfl⟩
theorem dL_law_1402 {nm : String} : pm_dec (mL_law nm) 1402 (.goto 4, 3) 1405 := ⟨(by decide +kernel : decode code 1402 = .ok (.goto 4, 3)), rfl⟩
theorem dL_law_1378 {nm : String} : pm_dec (mL_law nm) 1378 (.iconst 1, 1) 1379 := ⟨(by decide +kernel : decode code 1378 = .ok (.iconst 1, 1)), rfl⟩
theorem dL_law_1379 {nm : String} : pm_dec (mL_law nm) 1379 (.goto 4, 3) 1382 := ⟨(by decide +kernel : decode code 1379 = .ok (.goto 4, 3)), rfl⟩
theorem dL_law_1413 {nm : String} : pm_dec (mL_law nm) 1413 (.aload_n 1, 1) 1414 := ⟨(by decide +kernel : decode code 1413 = .ok (.aload_n 1, 1)), rfl⟩
theorem dL_law_1414 {nm : String} : pm_dec (mL_law nm) 1414 (.aload_n 0, 1) 1415 := ⟨(by decide +kernel : decode code 1414 = .ok (.aload_n 0, 1)), rfl⟩
theorem dL_law_1415 {nm : String} : pm_dec (mL_law nm) 1415 (.iload_n 3, 1) 1416 := ⟨(by decide +kernel : decode code 1415 = .ok (.iload_n 3, 1)), rfl⟩
theorem dL_law_1416 {nm : String} : pm_dec (mL_law nm) 1416 (.iconst 1, 1) 1417 := ⟨(by decide +kernel : decode code 1416 = .ok (.iconst 1, 1)), rfl⟩
theorem dL_law_1417 {nm : String} : pm_dec (mL_law nm) 1417 (.iadd, 1) 1418 := ⟨(by decide +kernel : decode code 1417 = .ok (.iadd, 1)), rfl⟩
theorem dL_law_1418 {nm : String} : pm_dec (mL_law nm) 1418 (.iaload, 1) 1419 := ⟨(by decide +kernel : decode code 1418 = .ok (.iaload, 1)), rfl⟩
theorem dL_law_1419 {nm : String} : pm_dec (mL_law nm) 1419 (.aload_n 0, 1) 1420 := ⟨(by decide +kernel : decode code 1419 = .ok (.aload_n 0, 1)), rfl⟩
theorem dL_law_1420 {nm : String} : pm_dec (mL_law nm) 1420 (.iload_n 3, 1) 1421 := ⟨(by decide +kernel : decode code 1420 = .ok (.iload_n 3, 1)), rfl⟩
theorem dL_law_1421 {nm : String} : pm_dec (mL_law nm) 1421 (.iconst 2, 1) 1422 := ⟨(by decide +kernel : decode code 1421 = .ok (.iconst 2, 1)), rfl⟩
theorem dL_law_1422 {nm : String} : pm_dec (mL_law nm) 1422 (.iadd, 1) 1423 := ⟨(by decide +kernel : decode code 1422 = .ok (.iadd, 1)), rfl⟩
theorem dL_law_1423 {nm : String} : pm_dec (mL_law nm) 1423 (.iaload, 1) 1424 := ⟨(by decide +kernel : decode code 1423 = .ok (.iaload, 1)), rfl⟩
theorem dL_law_1424 {nm : String} : pm_dec (mL_law nm) 1424 (.aload_n 0, 1) 1425 := ⟨(by decide +kernel : decode code 1424 = .ok (.aload_n 0, 1)), rfl⟩
theorem dL_law_1425 {nm : String} : pm_dec (mL_law nm) 1425 (.iload_n 3, 1) 1426 := ⟨(by decide +kernel : decode code 1425 = .ok (.iload_n 3, 1)), rfl⟩
theorem dL_law_1426 {nm : String} : pm_dec (mL_law nm) 1426 (.iconst 3, 1) 1427 := ⟨(by decide +kernel : decode code 1426 = .ok (.iconst 3, 1)), rfl⟩
theorem dL_law_1427 {nm : String} : pm_dec (mL_law nm) 1427 (.iadd, 1) 1428 := ⟨(by decide +kernel : decode code 1427 = .ok (.iadd, 1)), rfl⟩
theorem dL_law_1428 {nm : String} : pm_dec (mL_law nm) 1428 (.iaload, 1) 1429 := ⟨(by decide +kernel : decode code 1428 = .ok (.iaload, 1)), rfl⟩
theorem dL_law_1429 {nm : String} : pm_dec (mL_law nm) 1429 (.aload_n 0, 1) 1430 := ⟨(by decide +kernel : decode code 1429 = .ok (.aload_n 0, 1)), rfl⟩
theorem dL_law_1430 {nm : String} : pm_dec (mL_law nm) 1430 (.iload_n 3, 1) 1431 := ⟨(by decide +kernel : decode code 1430 = .ok (.iload_n 3, 1)), rfl⟩
theorem dL_law_1431 {nm : String} : pm_dec (mL_law nm) 1431 (.iconst 4, 1) 1432 := ⟨(by decide +kernel : decode code 1431 = .ok (.iconst 4, 1)), rfl⟩
theorem dL_law_1432 {nm : String} : pm_dec (mL_law nm) 1432 (.iadd, 1) 1433 := ⟨(by decide +kernel : decode code 1432 = .ok (.iadd, 1)), rfl⟩
theorem dL_law_1433 {nm : String} : pm_dec (mL_law nm) 1433 (.iaload, 1) 1434 := ⟨(by decide +kernel : decode code 1433 = .ok (.iaload, 1)), rfl⟩
theorem dL_law_1434 {nm : String} : pm_dec (mL_law nm) 1434 (.ifCond .eq 7, 3) 1437 := ⟨(by decide +kernel : decode code 1434 = .ok (.ifCond .eq 7, 3)), rfl⟩
theorem dL_law_1441 {nm : String} : pm_dec (mL_law nm) 1441 (.iconst 0, 1) 1442 := ⟨(by decide +kernel : decode code 1441 = .ok (.iconst 0, 1)), rfl⟩
theorem dL_law_1442 {nm : String} : pm_dec (mL_law nm) 1442 (.invokevirtual 154, 3) 1445 := ⟨(by decide +kernel : decode code 1442 = .ok (.invokevirtual 154, 3)), rfl⟩
theorem dL_law_1445 {nm : String} : pm_dec (mL_law nm) 1445 (.pop, 1) 1446 := ⟨(by decide +kernel : decode code 1445 = .ok (.pop, 1)), rfl⟩
theorem dL_law_1446 {nm : String} : pm_dec (mL_law nm) 1446 (.aload_n 2, 1) 1447 := ⟨(by decide +kernel : decode code 1446 = .ok (.aload_n 2, 1)), rfl⟩
theorem dL_law_1447 {nm : String} : pm_dec (mL_law nm) 1447 (.aload_n 0, 1) 1448 := ⟨(by decide +kernel : decode code 1447 = .ok (.aload_n 0, 1)), rfl⟩
theorem dL_law_1448 {nm : String} : pm_dec (mL_law nm) 1448 (.iload_n 3, 1) 1449 := ⟨(by decide +kernel : decode code 1448 = .ok (.iload_n 3, 1)), rfl⟩
theorem dL_law_1449 {nm : String} : pm_dec (mL_law nm) 1449 (.iconst 1, 1) 1450 := ⟨(by decide +kernel : decode code 1449 = .ok (.iconst 1, 1)), rfl⟩
theorem dL_law_1450 {nm : String} : pm_dec (mL_law nm) 1450 (.iadd, 1) 1451 := ⟨(by decide +kernel : decode code 1450 = .ok (.iadd, 1)), rfl⟩
theorem dL_law_1451 {nm : String} : pm_dec (mL_law nm) 1451 (.iaload, 1) 1452 := ⟨(by decide +kernel : decode code 1451 = .ok (.iaload, 1)), rfl⟩
theorem dL_law_1452 {nm : String} : pm_dec (mL_law nm) 1452 (.aload_n 0, 1) 1453 := ⟨(by decide +kernel : decode code 1452 = .ok (.aload_n 0, 1)), rfl⟩
theorem dL_law_1453 {nm : String} : pm_dec (mL_law nm) 1453 (.iload_n 3, 1) 1454 := ⟨(by decide +kernel : decode code 1453 = .ok (.iload_n 3, 1)), rfl⟩
theorem dL_law_1454 {nm : String} : pm_dec (mL_law nm) 1454 (.iconst 2, 1) 1455 := ⟨(by decide +kernel : decode code 1454 = .ok (.iconst 2, 1)), rfl⟩
theorem dL_law_1455 {nm : String} : pm_dec (mL_law nm) 1455 (.iadd, 1) 1456 := ⟨(by decide +kernel : decode code 1455 = .ok (.iadd, 1)), rfl⟩
theorem dL_law_1456 {nm : String} : pm_dec (mL_law nm) 1456 (.iaload, 1) 1457 := ⟨(by decide +kernel : decode code 1456 = .ok (.iaload, 1)), rfl⟩
theorem dL_law_1457 {nm : String} : pm_dec (mL_law nm) 1457 (.aload_n 0, 1) 1458 := ⟨(by decide +kernel : decode code 1457 = .ok (.aload_n 0, 1)), rfl⟩
theorem dL_law_1458 {nm : String} : pm_dec (mL_law nm) 1458 (.iload_n 3, 1) 1459 := ⟨(by decide +kernel : decode code 1458 = .ok (.iload_n 3, 1)), rfl⟩
theorem dL_law_1459 {nm : String} : pm_dec (mL_law nm) 1459 (.iconst 3, 1) 1460 := ⟨(by decide +kernel : decode code 1459 = .ok (.iconst 3, 1)), rfl⟩
theorem dL_law_1460 {nm : String} : pm_dec (mL_law nm) 1460 (.iadd, 1) 1461 := ⟨(by decide +kernel : decode code 1460 = .ok (.iadd, 1)), rfl⟩
theorem dL_law_1461 {nm : String} : pm_dec (mL_law nm) 1461 (.iaload, 1) 1462 := ⟨(by decide +kernel : decode code 1461 = .ok (.iaload, 1)), rfl⟩
theorem dL_law_1462 {nm : String} : pm_dec (mL_law nm) 1462 (.aload_n 0, 1) 1463 := ⟨(by decide +kernel : decode code 1462 = .ok (.aload_n 0, 1)), rfl⟩
theorem dL_law_1463 {nm : String} : pm_dec (mL_law nm) 1463 (.iload_n 3, 1) 1464 := ⟨(by decide +kernel : decode code 1463 = .ok (.iload_n 3, 1)), rfl⟩
theorem dL_law_1464 {nm : String} : pm_dec (mL_law nm) 1464 (.iconst 4, 1) 1465 := ⟨(by decide +kernel : decode code 1464 = .ok (.iconst 4, 1)), rfl⟩
theorem dL_law_1465 {nm : String} : pm_dec (mL_law nm) 1465 (.iadd, 1) 1466 := ⟨(by decide +kernel : decode code 1465 = .ok (.iadd, 1)), rfl⟩
theorem dL_law_1466 {nm : String} : pm_dec (mL_law nm) 1466 (.iaload, 1) 1467 := ⟨(by decide +kernel : decode code 1466 = .ok (.iaload, 1)), rfl⟩
theorem dL_law_1467 {nm : String} : pm_dec (mL_law nm) 1467 (.ifCond .eq 7, 3) 1470 := ⟨(by decide +kernel : decode code 1467 = .ok (.ifCond .eq 7, 3)), rfl⟩
theorem dL_law_1474 {nm : String} : pm_dec (mL_law nm) 1474 (.iconst 0, 1) 1475 := ⟨(by decide +kernel : decode code 1474 = .ok (.iconst 0, 1)), rfl⟩
theorem dL_law_1475 {nm : String} : pm_dec (mL_law nm) 1475 (.invokevirtual 158, 3) 1478 := ⟨(by decide +kernel : decode code 1475 = .ok (.invokevirtual 158, 3)), rfl⟩
theorem dL_law_1478 {nm : String} : pm_dec (mL_law nm) 1478 (.pop, 1) 1479 := ⟨(by decide +kernel : decode code 1478 = .ok (.pop, 1)), rfl⟩
theorem dL_law_1479 {nm : String} : pm_dec (mL_law nm) 1479 (.goto 626, 3) 1482 := ⟨(by decide +kernel : decode code 1479 = .ok (.goto 626, 3)), rfl⟩
theorem dL_law_1470 {nm : String} : pm_dec (mL_law nm) 1470 (.iconst 1, 1) 1471 := ⟨(by decide +kernel : decode code 1470 = .ok (.iconst 1, 1)), rfl⟩
theorem dL_law_1471 {nm : String} : pm_dec (mL_law nm) 1471 (.goto 4, 3) 1474 := ⟨(by decide +kernel : decode code 1471 = .ok (.goto 4, 3)), rfl⟩
theorem dL_law_1437 {nm : String} : pm_dec (mL_law nm) 1437 (.iconst 1, 1) 1438 := ⟨(by decide +kernel : decode code 1437 = .ok (.iconst 1, 1)), rfl⟩
theorem dL_law_1438 {nm : String} : pm_dec (mL_law nm) 1438 (.goto 4, 3) 1441 := ⟨(by decide +kernel : decode code 1438 = .ok (.goto 4, 3)), rfl⟩
theorem dL_law_1482 {nm : String} : pm_dec (mL_law nm) 1482 (.aload_n 1, 1) 1483 := ⟨(by decide +kernel : decode code 1482 = .ok (.aload_n 1, 1)), rfl⟩
theorem dL_law_1483 {nm : String} : pm_dec (mL_law nm) 1483 (.aload_n 0, 1) 1484 := ⟨(by decide +kernel : decode code 1483 = .ok (.aload_n 0, 1)), rfl⟩
theorem dL_law_1484 {nm : String} : pm_dec (mL_law nm) 1484 (.iload_n 3, 1) 1485 := ⟨(by decide +kernel : decode code 1484 = .ok (.iload_n 3, 1)), rfl⟩
theorem dL_law_1485 {nm : String} : pm_dec (mL_law nm) 1485 (.iconst 1, 1) 1486 := ⟨(by decide +kernel : decode code 1485 = .ok (.iconst 1, 1)), rfl⟩
theorem dL_law_1486 {nm : String} : pm_dec (mL_law nm) 1486 (.iadd, 1) 1487 := ⟨(by decide +kernel : decode code 1486 = .ok (.iadd, 1)), rfl⟩
theorem dL_law_1487 {nm : String} : pm_dec (mL_law nm) 1487 (.iaload, 1) 1488 := ⟨(by decide +kernel : decode code 1487 = .ok (.iaload, 1)), rfl⟩
theorem dL_law_1488 {nm : String} : pm_dec (mL_law nm) 1488 (.invokevirtual 159, 3) 1491 := ⟨(by decide +kernel : decode code 1488 = .ok (.invokevirtual 159, 3)), rfl⟩
theorem dL_law_1491 {nm : String} : pm_dec (mL_law nm) 1491 (.pop, 1) 1492 := ⟨(by decide +kernel : decode code 1491 = .ok (.pop, 1)), rfl⟩
theorem dL_law_1492 {nm : String} : pm_dec (mL_law nm) 1492 (.aload_n 2, 1) 1493 := ⟨(by decide +kernel : decode code 1492 = .ok (.aload_n 2, 1)), rfl⟩
theorem dL_law_1493 {nm : String} : pm_dec (mL_law nm) 1493 (.aload_n 0, 1) 1494 := ⟨(by decide +kernel : decode code 1493 = .ok (.aload_n 0, 1)), rfl⟩
theorem dL_law_1494 {nm : String} : pm_dec (mL_law nm) 1494 (.iload_n 3, 1) 1495 := ⟨(by decide +kernel : decode code 1494 = .ok (.iload_n 3, 1)), rfl⟩
theorem dL_law_1495 {nm : String} : pm_dec (mL_law nm) 1495 (.iconst 1, 1) 1496 := ⟨(by decide +kernel : decode code 1495 = .ok (.iconst 1, 1)), rfl⟩
theorem dL_law_1496 {nm : String} : pm_dec (mL_law nm) 1496 (.iadd, 1) 1497 := ⟨(by decide +kernel : decode code 1496 = .ok (.iadd, 1)), rfl⟩
theorem dL_law_1497 {nm : String} : pm_dec (mL_law nm) 1497 (.iaload, 1) 1498 := ⟨(by decide +kernel : decode code 1497 = .ok (.iaload, 1)), rfl⟩
theorem dL_law_1498 {nm : String} : pm_dec (mL_law nm) 1498 (.invokevirtual 162, 3) 1501 := ⟨(by decide +kernel : decode code 1498 = .ok (.invokevirtual 162, 3)), rfl⟩
theorem dL_law_1501 {nm : String} : pm_dec (mL_law nm) 1501 (.pop, 1) 1502 := ⟨(by decide +kernel : decode code 1501 = .ok (.pop, 1)), rfl⟩
theorem dL_law_1502 {nm : String} : pm_dec (mL_law nm) 1502 (.goto 603, 3) 1505 := ⟨(by decide +kernel : decode code 1502 = .ok (.goto 603, 3)), rfl⟩
theorem dL_law_1505 {nm : String} : pm_dec (mL_law nm) 1505 (.aload_n 1, 1) 1506 := ⟨(by decide +kernel : decode code 1505 = .ok (.aload_n 1, 1)), rfl⟩
theorem dL_law_1506 {nm : String} : pm_dec (mL_law nm) 1506 (.aload_n 0, 1) 1507 := ⟨(by decide +kernel : decode code 1506 = .ok (.aload_n 0, 1)), rfl⟩
theorem dL_law_1507 {nm : String} : pm_dec (mL_law nm) 1507 (.iload_n 3, 1) 1508 := ⟨(by decide +kernel : decode code 1507 = .ok (.iload_n 3, 1)), rfl⟩
theorem dL_law_1508 {nm : String} : pm_dec (mL_law nm) 1508 (.iconst 1, 1) 1509 := ⟨(by decide +kernel : decode code 1508 = .ok (.iconst 1, 1)), rfl⟩
theorem dL_law_1509 {nm : String} : pm_dec (mL_law nm) 1509 (.iadd, 1) 1510 := ⟨(by decide +kernel : decode code 1509 = .ok (.iadd, 1)), rfl⟩
theorem dL_law_1510 {nm : String} : pm_dec (mL_law nm) 1510 (.iaload, 1) 1511 := ⟨(by decide +kernel : decode code 1510 = .ok (.iaload, 1)), rfl⟩
theorem dL_law_1511 {nm : String} : pm_dec (mL_law nm) 1511 (.aload_n 0, 1) 1512 := ⟨(by decide +kernel : decode code 1511 = .ok (.aload_n 0, 1)), rfl⟩
theorem dL_law_1512 {nm : String} : pm_dec (mL_law nm) 1512 (.iload_n 3, 1) 1513 := ⟨(by decide +kernel : decode code 1512 = .ok (.iload_n 3, 1)), rfl⟩
theorem dL_law_1513 {nm : String} : pm_dec (mL_law nm) 1513 (.iconst 2, 1) 1514 := ⟨(by decide +kernel : decode code 1513 = .ok (.iconst 2, 1)), rfl⟩
theorem dL_law_1514 {nm : String} : pm_dec (mL_law nm) 1514 (.iadd, 1) 1515 := ⟨(by decide +kernel : decode code 1514 = .ok (.iadd, 1)), rfl⟩
theorem dL_law_1515 {nm : String} : pm_dec (mL_law nm) 1515 (.iaload, 1) 1516 := ⟨(by decide +kernel : decode code 1515 = .ok (.iaload, 1)), rfl⟩
theorem dL_law_1516 {nm : String} : pm_dec (mL_law nm) 1516 (.invokevirtual 163, 3) 1519 := ⟨(by decide +kernel : decode code 1516 = .ok (.invokevirtual 163, 3)), rfl⟩
theorem dL_law_1519 {nm : String} : pm_dec (mL_law nm) 1519 (.pop, 1) 1520 := ⟨(by decide +kernel : decode code 1519 = .ok (.pop, 1)), rfl⟩
theorem dL_law_1520 {nm : String} : pm_dec (mL_law nm) 1520 (.aload_n 2, 1) 1521 := ⟨(by decide +kernel : decode code 1520 = .ok (.aload_n 2, 1)), rfl⟩
theorem dL_law_1521 {nm : String} : pm_dec (mL_law nm) 1521 (.aload_n 0, 1) 1522 := ⟨(by decide +kernel : decode code 1521 = .ok (.aload_n 0, 1)), rfl⟩
theorem dL_law_1522 {nm : String} : pm_dec (mL_law nm) 1522 (.iload_n 3, 1) 1523 := ⟨(by decide +kernel : decode code 1522 = .ok (.iload_n 3, 1)), rfl⟩
theorem dL_law_1523 {nm : String} : pm_dec (mL_law nm) 1523 (.iconst 1, 1) 1524 := ⟨(by decide +kernel : decode code 1523 = .ok (.iconst 1, 1)), rfl⟩
theorem dL_law_1524 {nm : String} : pm_dec (mL_law nm) 1524 (.iadd, 1) 1525 := ⟨(by decide +kernel : decode code 1524 = .ok (.iadd, 1)), rfl⟩
theorem dL_law_1525 {nm : String} : pm_dec (mL_law nm) 1525 (.iaload, 1) 1526 := ⟨(by decide +kernel : decode code 1525 = .ok (.iaload, 1)), rfl⟩
theorem dL_law_1526 {nm : String} : pm_dec (mL_law nm) 1526 (.aload_n 0, 1) 1527 := ⟨(by decide +kernel : decode code 1526 = .ok (.aload_n 0, 1)), rfl⟩
theorem dL_law_1527 {nm : String} : pm_dec (mL_law nm) 1527 (.iload_n 3, 1) 1528 := ⟨(by decide +kernel : decode code 1527 = .ok (.iload_n 3, 1)), rfl⟩
theorem dL_law_1528 {nm : String} : pm_dec (mL_law nm) 1528 (.iconst 2, 1) 1529 := ⟨(by decide +kernel : decode code 1528 = .ok (.iconst 2, 1)), rfl⟩
theorem dL_law_1529 {nm : String} : pm_dec (mL_law nm) 1529 (.iadd, 1) 1530 := ⟨(by decide +kernel : decode code 1529 = .ok (.iadd, 1)), rfl⟩
theorem dL_law_1530 {nm : String} : pm_dec (mL_law nm) 1530 (.iaload, 1) 1531 := ⟨(by decide +kernel : decode code 1530 = .ok (.iaload, 1)), rfl⟩
theorem dL_law_1531 {nm : String} : pm_dec (mL_law nm) 1531 (.invokevirtual 166, 3) 1534 := ⟨(by decide +kernel : decode code 1531 = .ok (.invokevirtual 166, 3)), rfl⟩
theorem dL_law_1534 {nm : String} : pm_dec (mL_law nm) 1534 (.pop, 1) 1535 := ⟨(by decide +kernel : decode code 1534 = .ok (.pop, 1)), rfl⟩
theorem dL_law_1535 {nm : String} : pm_dec (mL_law nm) 1535 (.goto 570, 3) 1538 := ⟨(by decide +kernel : decode code 1535 = .ok (.goto 570, 3)), rfl⟩
theorem dL_law_1538 {nm : String} : pm_dec (mL_law nm) 1538 (.aload_n 1, 1) 1539 := ⟨(by decide +kernel : decode code 1538 = .ok (.aload_n 1, 1)), rfl⟩
theorem dL_law_1539 {nm : String} : pm_dec (mL_law nm) 1539 (.aload_n 0, 1) 1540 := ⟨(by decide +kernel : decode code 1539 = .ok (.aload_n 0, 1)), rfl⟩
theorem dL_law_1540 {nm : String} : pm_dec (mL_law nm) 1540 (.iload_n 3, 1) 1541 := ⟨(by decide +kernel : decode code 1540 = .ok (.iload_n 3, 1)), rfl⟩
theorem dL_law_1541 {nm : String} : pm_dec (mL_law nm) 1541 (.iconst 1, 1) 1542 := ⟨(by decide +kernel : decode code 1541 = .ok (.iconst 1, 1)), rfl⟩
theorem dL_law_1542 {nm : String} : pm_dec (mL_law nm) 1542 (.iadd, 1) 1543 := ⟨(by decide +kernel : decode code 1542 = .ok (.iadd, 1)), rfl⟩
theorem dL_law_1543 {nm : String} : pm_dec (mL_law nm) 1543 (.iaload, 1) 1544 := ⟨(by decide +kernel : decode code 1543 = .ok (.iaload, 1)), rfl⟩
theorem dL_law_1544 {nm : String} : pm_dec (mL_law nm) 1544 (.aload_n 0, 1) 1545 := ⟨(by decide +kernel : decode code 1544 = .ok (.aload_n 0, 1)), rfl⟩
theorem dL_law_1545 {nm : String} : pm_dec (mL_law nm) 1545 (.iload_n 3, 1) 1546 := ⟨(by decide +kernel : decode code 1545 = .ok (.iload_n 3, 1)), rfl⟩
